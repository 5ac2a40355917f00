/-! ROWS OF THE ABSTRACT MACHINE, one a kind of instruction -/
/-- the length of a row of ints, 0 for anything else -/
def aI (h : abH) (o : Nat) : Nat := match gT h o with
  | some (t, n) => if t = 0 ∨ t = 100 ∧ o = 0 ∨ t = 101 ∧ o = 1 then n else 0
  | none => 0
def aZ (h : abH) (o : Nat) : Nat := match gT h o with
  | some (t, n) => if t = 1 then n else 0
  | none => 0
def aJ (h : abH) (o : Nat) : Nat := match gT h o with
  | some (t, n) => if t = 0 then n else 0
  | none => 0
def aQ (h : abH) (o : Nat) : Nat := match gT h o with
  | some (t, n) => if t = 2 then n else 0
  | none => 0
def inb (i : Int32) (n : Nat) : Prop := 0 ≤ i ∧ i.toNatClampNeg < n
def b01 (a : Int32) : Prop := a = 0 ∨ a = 1
section AX
variable {d m pc : Nat} {L S : List Value} {h : abH} {Q : Option Value → abH → Prop} {mi : abMI}
theorem ax {len : Nat} {ins : Instr} {pc' : Nat} {L' S' : List Value} {h' : abH} (hm : abMT[m]? = some mi) (hd : decode mi.by pc = .ok (ins, len)) (e : ab_ins d mi pc len L S h ins = some (.inl (pc', L', S', h'))) : aW d m pc L S h Q = aW d m pc' L' S' h' Q := by
  refine aW_go ?_ Q
  unfold ab_next
  rw [hm]
  simp only [hd]
  exact e
theorem axn {len : Nat} {ins : Instr} (hm : abMT[m]? = some mi) (hd : decode mi.by pc = .ok (ins, len)) (e : ab_ins d mi pc len L S h ins = none) : ¬ aW d m pc L S h Q := by
  rintro ⟨n, r, hr, -⟩
  cases n with
  | zero => cases hr
  | succ n =>
    rw [ab_run] at hr
    have e2 : ab_next d m pc L S h = none := by
      unfold ab_next
      rw [hm]
      simp only [hd]
      exact e
    rw [e2] at hr
    cases hr
theorem ax_and {len : Nat} {ins : Instr} {pc' : Nat} {L' S' : List Value} {h' : abH} {P : Prop} (hm : abMT[m]? = some mi) (hd : decode mi.by pc = .ok (ins, len)) (e : P → ab_ins d mi pc len L S h ins = some (.inl (pc', L', S', h'))) (e2 : ¬ P → ab_ins d mi pc len L S h ins = none) : aW d m pc L S h Q = (P ∧ aW d m pc' L' S' h' Q) := by
  by_cases hp : P
  · rw [ax hm hd (e hp)]
    exact propext ⟨fun q => ⟨hp, q⟩, fun q => q.2⟩
  · exact propext ⟨fun q => absurd q (axn hm hd (e2 hp)), fun q => absurd q.1 hp⟩
theorem ax_iconst {n : Int} {v : Int32} (hm : abMT[m]? = some mi) (hd : decode mi.by pc = .ok (.iconst n, 1)) (hv : Int32.ofInt n = v) : aW d m pc L S h Q = aW d m (pc + 1) L (.int v :: S) h Q := by subst hv; exact ax hm hd rfl
theorem ax_bipush {n : Int} {v : Int32} (hm : abMT[m]? = some mi) (hd : decode mi.by pc = .ok (.bipush n, 2)) (hv : (Int8.ofInt n).toInt32 = v) : aW d m pc L S h Q = aW d m (pc + 2) L (.int v :: S) h Q := by subst hv; exact ax hm hd rfl
theorem ax_sipush {n : Int} {v : Int32} (hm : abMT[m]? = some mi) (hd : decode mi.by pc = .ok (.sipush n, 3)) (hv : (Int16.ofInt n).toInt32 = v) : aW d m pc L S h Q = aW d m (pc + 3) L (.int v :: S) h Q := by subst hv; exact ax hm hd rfl
theorem ax_ldc {ix w : Nat} {v : Int32} (hm : abMT[m]? = some mi) (hd : decode mi.by pc = .ok (.ldc ix, 2)) (hx : ix < 4096) (hf : abKT.lookup (mi.cn * 4096 + ix) = some (v, w)) : aW d m pc L S h Q = aW d m (pc + 2) L (.int v :: S) h Q := ax hm hd (by simp only [ab_ins, hx, hf, and_self, if_true]; rfl)
theorem ax_ldc_w {ix w : Nat} {v : Int32} (hm : abMT[m]? = some mi) (hd : decode mi.by pc = .ok (.ldc_w ix, 3)) (hx : ix < 4096) (hf : abKT.lookup (mi.cn * 4096 + ix) = some (v, w)) : aW d m pc L S h Q = aW d m (pc + 3) L (.int v :: S) h Q := ax hm hd (by simp only [ab_ins, hx, hf, and_self, if_true]; rfl)
theorem ax_ldc2_w {ix w : Nat} {v : Int64} (hm : abMT[m]? = some mi) (hd : decode mi.by pc = .ok (.ldc2_w ix, 3)) (hx : ix < 4096) (hf : abLT.lookup (mi.cn * 4096 + ix) = some (v, w)) : aW d m pc L S h Q = aW d m (pc + 3) L (.long v :: S) h Q := ax hm hd (by simp only [ab_ins, hx, hf, and_self, if_true]; rfl)
theorem ax_iload_n {k : Fin 4} {a : Int32} (hm : abMT[m]? = some mi) (hd : decode mi.by pc = .ok (.iload_n k, 1)) (hk : L[(k : Nat)]? = some (.int a)) : aW d m pc L S h Q = aW d m (pc + 1) L (.int a :: S) h Q := ax hm hd (by simp only [ab_ins, ab_ildK, hk, if_true]; rfl)
theorem ax_iload {k : Nat} {a : Int32} (hm : abMT[m]? = some mi) (hd : decode mi.by pc = .ok (.iload k, 2)) (hk : L[k]? = some (.int a)) : aW d m pc L S h Q = aW d m (pc + 2) L (.int a :: S) h Q := ax hm hd (by simp only [ab_ins, ab_ildK, hk, if_true]; rfl)
theorem ax_aload_n {k : Fin 4} {a : Nat} (hm : abMT[m]? = some mi) (hd : decode mi.by pc = .ok (.aload_n k, 1)) (hk : L[(k : Nat)]? = some (.ref a)) : aW d m pc L S h Q = aW d m (pc + 1) L (.ref a :: S) h Q := ax hm hd (by simp only [ab_ins, ab_aldK, hk, if_true]; rfl)
theorem ax_aload {k : Nat} {a : Nat} (hm : abMT[m]? = some mi) (hd : decode mi.by pc = .ok (.aload k, 2)) (hk : L[k]? = some (.ref a)) : aW d m pc L S h Q = aW d m (pc + 2) L (.ref a :: S) h Q := ax hm hd (by simp only [ab_ins, ab_aldK, hk, if_true]; rfl)
theorem ax_lload_n {k : Fin 4} {a : Int64} (hm : abMT[m]? = some mi) (hd : decode mi.by pc = .ok (.lload_n k, 1)) (hk : L[(k : Nat)]? = some (.long a)) (hk1 : L[(k : Nat) + 1]? = some (.retAddr 1)) : aW d m pc L S h Q = aW d m (pc + 1) L (.long a :: S) h Q := ax hm hd (by simp only [ab_ins, hk, hk1, if_true]; rfl)
theorem ax_istore_n {k : Fin 4} {a : Int32} {L' : List Value} (hm : abMT[m]? = some mi) (hd : decode mi.by pc = .ok (.istore_n k, 1)) (hk : (k : Nat) < L.length) (hL : L.set k (.int a) = L') : aW d m pc L (.int a :: S) h Q = aW d m (pc + 1) L' S h Q := by subst hL; exact ax hm hd (by simp only [ab_ins, ab_istK, hk, if_true]; rfl)
theorem ax_istore {k : Nat} {a : Int32} {L' : List Value} (hm : abMT[m]? = some mi) (hd : decode mi.by pc = .ok (.istore k, 2)) (hk : k < L.length) (hL : L.set k (.int a) = L') : aW d m pc L (.int a :: S) h Q = aW d m (pc + 2) L' S h Q := by subst hL; exact ax hm hd (by simp only [ab_ins, ab_istK, hk, if_true]; rfl)
theorem ax_astore_n {k : Fin 4} {a : Nat} {L' : List Value} (hm : abMT[m]? = some mi) (hd : decode mi.by pc = .ok (.astore_n k, 1)) (hk : (k : Nat) < L.length) (hL : L.set k (.ref a) = L') : aW d m pc L (.ref a :: S) h Q = aW d m (pc + 1) L' S h Q := by subst hL; exact ax hm hd (by simp only [ab_ins, ab_astK, hk, if_true]; rfl)
theorem ax_astore {k : Nat} {a : Nat} {L' : List Value} (hm : abMT[m]? = some mi) (hd : decode mi.by pc = .ok (.astore k, 2)) (hk : k < L.length) (hL : L.set k (.ref a) = L') : aW d m pc L (.ref a :: S) h Q = aW d m (pc + 2) L' S h Q := by subst hL; exact ax hm hd (by simp only [ab_ins, ab_astK, hk, if_true]; rfl)
theorem ax_iinc {k : Nat} {n : Int} {a v : Int32} {L' : List Value} (hm : abMT[m]? = some mi) (hd : decode mi.by pc = .ok (.iinc k n, 3)) (hk : L[k]? = some (.int a)) (hv : Int32.ofInt n = v) (hL : L.set k (.int (a + v)) = L') : aW d m pc L S h Q = aW d m (pc + 3) L' S h Q := by subst hv; subst hL; exact ax hm hd (by simp only [ab_ins, hk, if_true]; rfl)
theorem ax_pop {a : Int32} (hm : abMT[m]? = some mi) (hd : decode mi.by pc = .ok (.pop, 1)) : aW d m pc L (.int a :: S) h Q = aW d m (pc + 1) L S h Q := ax hm hd rfl
theorem ax_dupi {a : Int32} (hm : abMT[m]? = some mi) (hd : decode mi.by pc = .ok (.dup, 1)) : aW d m pc L (.int a :: S) h Q = aW d m (pc + 1) L (.int a :: .int a :: S) h Q := ax hm hd rfl
theorem ax_dupa {a : Nat} (hm : abMT[m]? = some mi) (hd : decode mi.by pc = .ok (.dup, 1)) : aW d m pc L (.ref a :: S) h Q = aW d m (pc + 1) L (.ref a :: .ref a :: S) h Q := ax hm hd rfl
theorem ax_dup2 {a : Int32} {b : Nat} (hm : abMT[m]? = some mi) (hd : decode mi.by pc = .ok (.dup2, 1)) : aW d m pc L (.int a :: .ref b :: S) h Q = aW d m (pc + 1) L (.int a :: .ref b :: .int a :: .ref b :: S) h Q := ax hm hd rfl
theorem ax_iadd {a b : Int32} (hm : abMT[m]? = some mi) (hd : decode mi.by pc = .ok (.iadd, 1)) : aW d m pc L (.int b :: .int a :: S) h Q = aW d m (pc + 1) L (.int (a + b) :: S) h Q := ax hm hd rfl
theorem ax_isub {a b : Int32} (hm : abMT[m]? = some mi) (hd : decode mi.by pc = .ok (.isub, 1)) : aW d m pc L (.int b :: .int a :: S) h Q = aW d m (pc + 1) L (.int (a - b) :: S) h Q := ax hm hd rfl
theorem ax_imul {a b : Int32} (hm : abMT[m]? = some mi) (hd : decode mi.by pc = .ok (.imul, 1)) : aW d m pc L (.int b :: .int a :: S) h Q = aW d m (pc + 1) L (.int (a * b) :: S) h Q := ax hm hd rfl
theorem ax_iand {a b : Int32} (hm : abMT[m]? = some mi) (hd : decode mi.by pc = .ok (.iand, 1)) : aW d m pc L (.int b :: .int a :: S) h Q = aW d m (pc + 1) L (.int (a &&& b) :: S) h Q := ax hm hd rfl
theorem ax_ior {a b : Int32} (hm : abMT[m]? = some mi) (hd : decode mi.by pc = .ok (.ior, 1)) : aW d m pc L (.int b :: .int a :: S) h Q = aW d m (pc + 1) L (.int (a ||| b) :: S) h Q := ax hm hd rfl
theorem ax_ixor {a b : Int32} (hm : abMT[m]? = some mi) (hd : decode mi.by pc = .ok (.ixor, 1)) : aW d m pc L (.int b :: .int a :: S) h Q = aW d m (pc + 1) L (.int (a ^^^ b) :: S) h Q := ax hm hd rfl
theorem ax_ishl {a b : Int32} (hm : abMT[m]? = some mi) (hd : decode mi.by pc = .ok (.ishl, 1)) : aW d m pc L (.int b :: .int a :: S) h Q = aW d m (pc + 1) L (.int (a <<< (b &&& 31)) :: S) h Q := ax hm hd rfl
theorem ax_ishr {a b : Int32} (hm : abMT[m]? = some mi) (hd : decode mi.by pc = .ok (.ishr, 1)) : aW d m pc L (.int b :: .int a :: S) h Q = aW d m (pc + 1) L (.int (a >>> (b &&& 31)) :: S) h Q := ax hm hd rfl
theorem ax_iushr {a b : Int32} (hm : abMT[m]? = some mi) (hd : decode mi.by pc = .ok (.iushr, 1)) : aW d m pc L (.int b :: .int a :: S) h Q = aW d m (pc + 1) L (.int (a.toUInt32 >>> (b.toUInt32 &&& Int32.toUInt32 31)).toInt32 :: S) h Q := ax hm hd rfl
theorem ax_idiv {a b : Int32} (hm : abMT[m]? = some mi) (hd : decode mi.by pc = .ok (.idiv, 1)) : aW d m pc L (.int b :: .int a :: S) h Q = ((¬ b = 0) ∧ aW d m (pc + 1) L (.int (a / b) :: S) h Q) := ax_and hm hd (fun hb => by simp only [ab_ins, if_neg hb, if_true]; rfl) (fun hb => by simp only [ab_ins, if_pos (Classical.not_not.mp hb), if_true])
theorem ax_i2l {a : Int32} (hm : abMT[m]? = some mi) (hd : decode mi.by pc = .ok (.i2l, 1)) : aW d m pc L (.int a :: S) h Q = aW d m (pc + 1) L (.long a.toInt64 :: S) h Q := ax hm hd rfl
theorem ax_l2i {a : Int64} (hm : abMT[m]? = some mi) (hd : decode mi.by pc = .ok (.l2i, 1)) : aW d m pc L (.long a :: S) h Q = aW d m (pc + 1) L (.int a.toInt32 :: S) h Q := ax hm hd rfl
theorem ax_i2b {a : Int32} (hm : abMT[m]? = some mi) (hd : decode mi.by pc = .ok (.i2b, 1)) : aW d m pc L (.int a :: S) h Q = aW d m (pc + 1) L (.int a.toInt8.toInt32 :: S) h Q := ax hm hd rfl
theorem ax_i2s {a : Int32} (hm : abMT[m]? = some mi) (hd : decode mi.by pc = .ok (.i2s, 1)) : aW d m pc L (.int a :: S) h Q = aW d m (pc + 1) L (.int a.toInt16.toInt32 :: S) h Q := ax hm hd rfl
theorem ax_land {a b : Int64} (hm : abMT[m]? = some mi) (hd : decode mi.by pc = .ok (.land, 1)) : aW d m pc L (.long b :: .long a :: S) h Q = aW d m (pc + 1) L (.long (a &&& b) :: S) h Q := ax hm hd rfl
theorem ax_lor {a b : Int64} (hm : abMT[m]? = some mi) (hd : decode mi.by pc = .ok (.lor, 1)) : aW d m pc L (.long b :: .long a :: S) h Q = aW d m (pc + 1) L (.long (a ||| b) :: S) h Q := ax hm hd rfl
theorem ax_lshl {a : Int64} {b : Int32} (hm : abMT[m]? = some mi) (hd : decode mi.by pc = .ok (.lshl, 1)) : aW d m pc L (.int b :: .long a :: S) h Q = aW d m (pc + 1) L (.long (a <<< (b.toInt64 &&& 63)) :: S) h Q := ax hm hd rfl
theorem ax_lshr {a : Int64} {b : Int32} (hm : abMT[m]? = some mi) (hd : decode mi.by pc = .ok (.lshr, 1)) : aW d m pc L (.int b :: .long a :: S) h Q = aW d m (pc + 1) L (.long (a >>> (b.toInt64 &&& 63)) :: S) h Q := ax hm hd rfl
theorem ax_lushr {a : Int64} {b : Int32} (hm : abMT[m]? = some mi) (hd : decode mi.by pc = .ok (.lushr, 1)) : aW d m pc L (.int b :: .long a :: S) h Q = aW d m (pc + 1) L (.long (a.toUInt64 >>> (b.toInt64.toUInt64 &&& Int64.toUInt64 63)).toInt64 :: S) h Q := ax hm hd rfl
theorem ax_br {len : Nat} {ins : Instr} {c : Bool} {off : Int} {tgt : Nat} {S0 : List Value} (hm : abMT[m]? = some mi) (hd : decode mi.by pc = .ok (ins, len)) (e : ab_ins d mi pc len L S0 h ins = ab_br c pc off L S h) (ht : (pc : Int) + off = (tgt : Int)) : aW d m pc L S0 h Q = (if c = true then aW d m tgt L S h Q else aW d m (pc + 3) L S h Q) := by
  have h0 : 0 ≤ (pc : Int) + off := by omega
  have h1 : ((pc : Int) + off).toNat = tgt := by omega
  by_cases hc : c = true
  · rw [if_pos hc]
    refine ax hm hd (e.trans ?_)
    unfold ab_br
    rw [if_pos h0, if_pos hc, h1]
    rfl
  · rw [if_neg hc]
    refine ax hm hd (e.trans ?_)
    unfold ab_br
    rw [if_pos h0, if_neg hc]
    rfl
theorem ax_ite {c : Bool} {P : Prop} [Decidable P] {A B : Prop} (h : c = true ↔ P) : (if c = true then A else B) = (if P then A else B) := by
  by_cases hp : P
  · rw [if_pos hp, if_pos (h.mpr hp)]
  · rw [if_neg hp, if_neg (fun q => hp (h.mp q))]
theorem ax_itn {c : Bool} {P : Prop} [Decidable P] {A B : Prop} (h : c = true ↔ ¬ P) : (if c = true then A else B) = (if P then B else A) := by
  by_cases hp : P
  · rw [if_pos hp, if_neg (fun q => (h.mp q) hp)]
  · rw [if_neg hp, if_pos (h.mpr hp)]
theorem ax_if_eq {a : Int32} {off : Int} {tgt : Nat} (hm : abMT[m]? = some mi) (hd : decode mi.by pc = .ok (.ifCond .eq off, 3)) (ht : (pc : Int) + off = (tgt : Int)) : aW d m pc L (.int a :: S) h Q = (if a = 0 then aW d m tgt L S h Q else aW d m (pc + 3) L S h Q) := (ax_br (c := ab_c .eq a 0) hm hd rfl ht).trans (ax_ite (by simp [ab_c]))
theorem ax_if_ne {a : Int32} {off : Int} {tgt : Nat} (hm : abMT[m]? = some mi) (hd : decode mi.by pc = .ok (.ifCond .ne off, 3)) (ht : (pc : Int) + off = (tgt : Int)) : aW d m pc L (.int a :: S) h Q = (if a = 0 then aW d m (pc + 3) L S h Q else aW d m tgt L S h Q) := (ax_br (c := ab_c .ne a 0) hm hd rfl ht).trans (ax_itn (by simp [ab_c]))
theorem ax_if_lt {a : Int32} {off : Int} {tgt : Nat} (hm : abMT[m]? = some mi) (hd : decode mi.by pc = .ok (.ifCond .lt off, 3)) (ht : (pc : Int) + off = (tgt : Int)) : aW d m pc L (.int a :: S) h Q = (if a < 0 then aW d m tgt L S h Q else aW d m (pc + 3) L S h Q) := (ax_br (c := ab_c .lt a 0) hm hd rfl ht).trans (ax_ite (by simp [ab_c]))
theorem ax_if_ge {a : Int32} {off : Int} {tgt : Nat} (hm : abMT[m]? = some mi) (hd : decode mi.by pc = .ok (.ifCond .ge off, 3)) (ht : (pc : Int) + off = (tgt : Int)) : aW d m pc L (.int a :: S) h Q = (if a < 0 then aW d m (pc + 3) L S h Q else aW d m tgt L S h Q) := (ax_br (c := ab_c .ge a 0) hm hd rfl ht).trans (ax_itn (by simp [ab_c]))
theorem ax_if_gt {a : Int32} {off : Int} {tgt : Nat} (hm : abMT[m]? = some mi) (hd : decode mi.by pc = .ok (.ifCond .gt off, 3)) (ht : (pc : Int) + off = (tgt : Int)) : aW d m pc L (.int a :: S) h Q = (if 0 < a then aW d m tgt L S h Q else aW d m (pc + 3) L S h Q) := (ax_br (c := ab_c .gt a 0) hm hd rfl ht).trans (ax_ite (by simp [ab_c]))
theorem ax_if_le {a : Int32} {off : Int} {tgt : Nat} (hm : abMT[m]? = some mi) (hd : decode mi.by pc = .ok (.ifCond .le off, 3)) (ht : (pc : Int) + off = (tgt : Int)) : aW d m pc L (.int a :: S) h Q = (if 0 < a then aW d m (pc + 3) L S h Q else aW d m tgt L S h Q) := (ax_br (c := ab_c .le a 0) hm hd rfl ht).trans (ax_itn (by simp [ab_c]))
theorem ax_icmp_eq {a b : Int32} {off : Int} {tgt : Nat} (hm : abMT[m]? = some mi) (hd : decode mi.by pc = .ok (.if_icmp .eq off, 3)) (ht : (pc : Int) + off = (tgt : Int)) : aW d m pc L (.int b :: .int a :: S) h Q = (if a = b then aW d m tgt L S h Q else aW d m (pc + 3) L S h Q) := (ax_br (c := ab_c .eq a b) hm hd rfl ht).trans (ax_ite (by simp [ab_c]))
theorem ax_icmp_ne {a b : Int32} {off : Int} {tgt : Nat} (hm : abMT[m]? = some mi) (hd : decode mi.by pc = .ok (.if_icmp .ne off, 3)) (ht : (pc : Int) + off = (tgt : Int)) : aW d m pc L (.int b :: .int a :: S) h Q = (if a = b then aW d m (pc + 3) L S h Q else aW d m tgt L S h Q) := (ax_br (c := ab_c .ne a b) hm hd rfl ht).trans (ax_itn (by simp [ab_c]))
theorem ax_icmp_lt {a b : Int32} {off : Int} {tgt : Nat} (hm : abMT[m]? = some mi) (hd : decode mi.by pc = .ok (.if_icmp .lt off, 3)) (ht : (pc : Int) + off = (tgt : Int)) : aW d m pc L (.int b :: .int a :: S) h Q = (if a < b then aW d m tgt L S h Q else aW d m (pc + 3) L S h Q) := (ax_br (c := ab_c .lt a b) hm hd rfl ht).trans (ax_ite (by simp [ab_c]))
theorem ax_icmp_ge {a b : Int32} {off : Int} {tgt : Nat} (hm : abMT[m]? = some mi) (hd : decode mi.by pc = .ok (.if_icmp .ge off, 3)) (ht : (pc : Int) + off = (tgt : Int)) : aW d m pc L (.int b :: .int a :: S) h Q = (if a < b then aW d m (pc + 3) L S h Q else aW d m tgt L S h Q) := (ax_br (c := ab_c .ge a b) hm hd rfl ht).trans (ax_itn (by simp [ab_c]))
theorem ax_icmp_gt {a b : Int32} {off : Int} {tgt : Nat} (hm : abMT[m]? = some mi) (hd : decode mi.by pc = .ok (.if_icmp .gt off, 3)) (ht : (pc : Int) + off = (tgt : Int)) : aW d m pc L (.int b :: .int a :: S) h Q = (if b < a then aW d m tgt L S h Q else aW d m (pc + 3) L S h Q) := (ax_br (c := ab_c .gt a b) hm hd rfl ht).trans (ax_ite (by simp [ab_c]))
theorem ax_icmp_le {a b : Int32} {off : Int} {tgt : Nat} (hm : abMT[m]? = some mi) (hd : decode mi.by pc = .ok (.if_icmp .le off, 3)) (ht : (pc : Int) + off = (tgt : Int)) : aW d m pc L (.int b :: .int a :: S) h Q = (if b < a then aW d m (pc + 3) L S h Q else aW d m tgt L S h Q) := (ax_br (c := ab_c .le a b) hm hd rfl ht).trans (ax_itn (by simp [ab_c]))
theorem ax_jp {len : Nat} {ins : Instr} {off : Int} {tgt : Nat} {S0 : List Value} (hm : abMT[m]? = some mi) (hd : decode mi.by pc = .ok (ins, len)) (e : ab_ins d mi pc len L S0 h ins = ab_jp pc off L S h) (ht : (pc : Int) + off = (tgt : Int)) : aW d m pc L S0 h Q = aW d m tgt L S h Q := by
  refine ax hm hd (e.trans ?_)
  unfold ab_jp
  rw [if_pos (by omega), show ((pc : Int) + off).toNat = tgt by omega]
  rfl
theorem ax_goto {off : Int} {tgt : Nat} (hm : abMT[m]? = some mi) (hd : decode mi.by pc = .ok (.goto off, 3)) (ht : (pc : Int) + off = (tgt : Int)) : aW d m pc L S h Q = aW d m tgt L S h Q := ax_jp hm hd rfl ht
theorem ax_tabO {a : Int32} {df lo hi : Int} {offs : Array Int} {len tgt : Nat} (hm : abMT[m]? = some mi) (hd : decode mi.by pc = .ok (.tableswitch df lo hi offs, len)) (ho : a.toInt < lo ∨ hi < a.toInt) (ht : (pc : Int) + df = (tgt : Int)) : aW d m pc L (.int a :: S) h Q = aW d m tgt L S h Q := ax_jp hm hd (by simp only [ab_ins, if_pos ho]) ht
theorem ax_tabI {a : Int32} {df lo hi off : Int} {offs : Array Int} {len tgt : Nat} (hm : abMT[m]? = some mi) (hd : decode mi.by pc = .ok (.tableswitch df lo hi offs, len)) (ho : ¬ (a.toInt < lo ∨ hi < a.toInt)) (hf : offs[(a.toInt - lo).toNat]? = some off) (ht : (pc : Int) + off = (tgt : Int)) : aW d m pc L (.int a :: S) h Q = aW d m tgt L S h Q := ax_jp hm hd (by simp only [ab_ins, if_neg ho, hf]) ht
theorem ax_look {a : Int32} {df off : Int} {ps : Array (Int × Int)} {len tgt : Nat} (hm : abMT[m]? = some mi) (hd : decode mi.by pc = .ok (.lookupswitch df ps, len)) (hp : (ps.toList.zip (ps.toList.drop 1)).all (fun (a, next) => a.1 < next.1) = true) (hf : Op.lookupswitch.offset ps.toList df a.toInt = off) (ht : (pc : Int) + off = (tgt : Int)) : aW d m pc L (.int a :: S) h Q = aW d m tgt L S h Q := ax_jp hm hd (by subst hf; simp only [ab_ins, if_pos hp]) ht
theorem ax_geti {ix ci k ne w N o : Nat} (hm : abMT[m]? = some mi) (hd : decode mi.by pc = .ok (.getfield ix, 3)) (hx : ix < 4096) (hf : abFT.lookup (mi.cn * 4096 + ix) = some (ci, k, ne, w)) (hk : abKd ci k ≠ 2) (hT : gT h o = some (ci + 3, N)) : aW d m pc L (.ref o :: S) h Q = aW d m (pc + 3) L (.int (gI h o k) :: S) h Q := ax hm hd (by simp only [ab_ins, ab_get, hx, hf, hT, and_self, if_true, if_neg hk]; rfl)
theorem ax_geta {ix ci k ne w N o : Nat} (hm : abMT[m]? = some mi) (hd : decode mi.by pc = .ok (.getfield ix, 3)) (hx : ix < 4096) (hf : abFT.lookup (mi.cn * 4096 + ix) = some (ci, k, ne, w)) (hk : abKd ci k = 2) (hT : gT h o = some (ci + 3, N)) : aW d m pc L (.ref o :: S) h Q = (isRf (gR h o k) = true ∧ aW d m (pc + 3) L (gR h o k :: S) h Q) := ax_and hm hd (fun hp => by simp only [ab_ins, ab_get, hx, hf, hT, and_self, if_true, if_pos hk, if_pos hp]; rfl) (fun hp => by simp only [ab_ins, ab_get, hx, hf, hT, and_self, if_true, if_pos hk, if_neg hp])
theorem ax_puti {ix ci k ne w N o : Nat} {a : Int32} (hm : abMT[m]? = some mi) (hd : decode mi.by pc = .ok (.putfield ix, 3)) (hx : ix < 4096) (hf : abFT.lookup (mi.cn * 4096 + ix) = some (ci, k, ne, w)) (hn : ¬ (abFin ci k = true ∧ ¬ (mi.nm.name = "<init>" ∧ abDecl ci k = mi.nm.cls ∧ ne = 0))) (hk : abKd ci k = 0) (hT : gT h o = some (ci + 3, N)) : aW d m pc L (.int a :: .ref o :: S) h Q = aW d m (pc + 3) L S (pI h o k a) Q := ax hm hd (by simp only [ab_ins, ab_put, hx, hf, hT, and_self, if_true, if_neg hn, if_pos (show True ∧ (abKd ci k = 0 ∨ abKd ci k = 1 ∧ (a = 0 ∨ a = 1)) from ⟨trivial, Or.inl hk⟩)]; rfl)
theorem ax_putz {ix ci k ne w N o : Nat} {a : Int32} (hm : abMT[m]? = some mi) (hd : decode mi.by pc = .ok (.putfield ix, 3)) (hx : ix < 4096) (hf : abFT.lookup (mi.cn * 4096 + ix) = some (ci, k, ne, w)) (hn : ¬ (abFin ci k = true ∧ ¬ (mi.nm.name = "<init>" ∧ abDecl ci k = mi.nm.cls ∧ ne = 0))) (hk : abKd ci k = 1) (hT : gT h o = some (ci + 3, N)) : aW d m pc L (.int a :: .ref o :: S) h Q = (b01 a ∧ aW d m (pc + 3) L S (pI h o k a) Q) := ax_and hm hd (fun hp => by simp only [ab_ins, ab_put, hx, hf, hT, and_self, if_true, if_neg hn, if_pos (show True ∧ (abKd ci k = 0 ∨ abKd ci k = 1 ∧ (a = 0 ∨ a = 1)) from ⟨trivial, Or.inr ⟨hk, hp⟩⟩)]; rfl) (fun hp => by simp only [ab_ins, ab_put, hx, hf, hT, and_self, if_true, if_neg hn, if_neg (show ¬ (True ∧ (abKd ci k = 0 ∨ abKd ci k = 1 ∧ (a = 0 ∨ a = 1))) from fun q => q.2.elim (fun z => by rw [hk] at z; cases z) (fun z => hp z.2))])
theorem ax_puta {ix ci k ne w N o a : Nat} (hm : abMT[m]? = some mi) (hd : decode mi.by pc = .ok (.putfield ix, 3)) (hx : ix < 4096) (hf : abFT.lookup (mi.cn * 4096 + ix) = some (ci, k, ne, w)) (hn : ¬ (abFin ci k = true ∧ ¬ (mi.nm.name = "<init>" ∧ abDecl ci k = mi.nm.cls ∧ ne = 0))) (hk : abKd ci k = 2) (hT : gT h o = some (ci + 3, N)) : aW d m pc L (.ref a :: .ref o :: S) h Q = aW d m (pc + 3) L S (pR h o k (.ref a)) Q := ax hm hd (by simp only [ab_ins, ab_put, hx, hf, hT, and_self, if_true, if_neg hn, hk]; rfl)
theorem ax_gets {ix : Nat} {w : Nat} (hm : abMT[m]? = some mi) (hd : decode mi.by pc = .ok (.getstatic ix, 3)) (hx : ix < 4096) (hf : abST.lookup (mi.cn * 4096 + ix) = some w) : aW d m pc L S h Q = aW d m (pc + 3) L (.ref 1 :: S) h Q := ax hm hd (by simp only [ab_ins, hx, hf, and_self, if_true]; rfl)
theorem ax_new {ix ci : Nat} {w : Nat × Nat × Nat} (hm : abMT[m]? = some mi) (hd : decode mi.by pc = .ok (.new ix, 3)) (hx : ix < 4096) (hf : abNT.lookup (mi.cn * 4096 + ix) = some (ci, w)) (hc : ci < 12) : aW d m pc L S h Q = aW d m (pc + 3) L (.ref h.1.length :: S) (nO h (ci + 3) (abKs.getD ci []).length) Q := ax hm hd (by simp only [ab_ins, ab_new, hx, hf, hc, and_self, if_true]; rfl)
theorem ax_newi {n : Int32} (hm : abMT[m]? = some mi) (hd : decode mi.by pc = .ok (.newarray .int, 2)) (hn : ¬ n < 0 ∧ n.toNatClampNeg ≤ 100000) : aW d m pc L (.int n :: S) h Q = aW d m (pc + 2) L (.ref h.1.length :: S) (nO h 0 n.toNatClampNeg) Q := ax hm hd (by simp only [ab_ins, ab_newa, if_pos hn, if_true]; rfl)
theorem ax_newz {n : Int32} (hm : abMT[m]? = some mi) (hd : decode mi.by pc = .ok (.newarray .boolean, 2)) (hn : ¬ n < 0 ∧ n.toNatClampNeg ≤ 100000) : aW d m pc L (.int n :: S) h Q = aW d m (pc + 2) L (.ref h.1.length :: S) (nO h 1 n.toNatClampNeg) Q := ax hm hd (by simp only [ab_ins, ab_newa, if_pos hn, if_true]; rfl)
theorem ax_newq {n : Int32} {ix : Nat} {w : Nat × Nat × Nat} (hm : abMT[m]? = some mi) (hd : decode mi.by pc = .ok (.anewarray ix, 3)) (hx : ix < 4096) (hf : abNT.lookup (mi.cn * 4096 + ix) = some (8, w)) (hn : ¬ n < 0 ∧ n.toNatClampNeg ≤ 100000) : aW d m pc L (.int n :: S) h Q = aW d m (pc + 3) L (.ref h.1.length :: S) (nO h 2 n.toNatClampNeg) Q := ax hm hd (by simp only [ab_ins, ab_newq, hx, hf, hn, and_self, not_false_eq_true, if_true]; rfl)
theorem ax_iald {i : Int32} {o : Nat} (hm : abMT[m]? = some mi) (hd : decode mi.by pc = .ok (.iaload, 1)) : aW d m pc L (.int i :: .ref o :: S) h Q = (inb i (aI h o) ∧ aW d m (pc + 1) L (.int (gI h o i.toNatClampNeg) :: S) h Q) := by
  refine ax_and hm hd (fun hp => ?_) (fun hp => ?_)
  · obtain ⟨h1, h2⟩ := hp
    unfold aI at h2
    simp only [ab_ins, ab_iald, if_true]
    split at h2
    · rename_i t n hT
      split at h2
      · rename_i ht
        simp only [hT]
        rw [if_pos (And.intro ht (And.intro h1 h2))]
        rfl
      · omega
    · omega
  · simp only [ab_ins, ab_iald, if_true]
    split
    · rename_i t n hT
      split
      · rename_i hc
        exfalso
        refine hp ⟨hc.2.1, ?_⟩
        unfold aI
        rw [hT]
        simp only [if_pos hc.1]
        exact hc.2.2
      · rfl
    · rfl
theorem ax_zald {i : Int32} {o : Nat} (hm : abMT[m]? = some mi) (hd : decode mi.by pc = .ok (.baload, 1)) : aW d m pc L (.int i :: .ref o :: S) h Q = (inb i (aZ h o) ∧ aW d m (pc + 1) L (.int (gI h o i.toNatClampNeg) :: S) h Q) := by
  refine ax_and hm hd (fun hp => ?_) (fun hp => ?_)
  · obtain ⟨h1, h2⟩ := hp
    unfold aZ at h2
    simp only [ab_ins, ab_zald, if_true]
    split at h2
    · rename_i t n hT
      split at h2
      · rename_i ht
        simp only [hT]
        rw [if_pos (And.intro ht (And.intro h1 h2))]
        rfl
      · omega
    · omega
  · simp only [ab_ins, ab_zald, if_true]
    split
    · rename_i t n hT
      split
      · rename_i hc
        exfalso
        refine hp ⟨hc.2.1, ?_⟩
        unfold aZ
        rw [hT]
        simp only [if_pos hc.1]
        exact hc.2.2
      · rfl
    · rfl
theorem ax_aald {i : Int32} {o : Nat} (hm : abMT[m]? = some mi) (hd : decode mi.by pc = .ok (.aaload, 1)) : aW d m pc L (.int i :: .ref o :: S) h Q = ((inb i (aQ h o) ∧ isRf (gR h o i.toNatClampNeg) = true) ∧ aW d m (pc + 1) L (gR h o i.toNatClampNeg :: S) h Q) := by
  refine ax_and hm hd (fun hp => ?_) (fun hp => ?_)
  · obtain ⟨⟨h1, h2⟩, h3⟩ := hp
    unfold aQ at h2
    simp only [ab_ins, ab_aald, if_true]
    split at h2
    · rename_i t n hT
      split at h2
      · rename_i ht
        simp only [hT]
        rw [if_pos (And.intro ht (And.intro (And.intro h1 h2) h3))]
        rfl
      · omega
    · omega
  · simp only [ab_ins, ab_aald, if_true]
    split
    · rename_i t n hT
      split
      · rename_i hc
        exfalso
        refine hp ⟨⟨hc.2.1.1, ?_⟩, hc.2.2⟩
        unfold aQ
        rw [hT]
        simp only [if_pos hc.1]
        exact hc.2.1.2
      · rfl
    · rfl
theorem ax_iast {i a : Int32} {o : Nat} (hm : abMT[m]? = some mi) (hd : decode mi.by pc = .ok (.iastore, 1)) : aW d m pc L (.int a :: .int i :: .ref o :: S) h Q = (inb i (aJ h o) ∧ aW d m (pc + 1) L S (pI h o i.toNatClampNeg a) Q) := by
  refine ax_and hm hd (fun hp => ?_) (fun hp => ?_)
  · obtain ⟨h1, h2⟩ := hp
    unfold aJ at h2
    simp only [ab_ins, ab_iast, if_true]
    split at h2
    · rename_i t n hT
      split at h2
      · rename_i ht
        simp only [hT]
        rw [if_pos (And.intro ht (And.intro h1 h2))]
        rfl
      · omega
    · omega
  · simp only [ab_ins, ab_iast, if_true]
    split
    · rename_i t n hT
      split
      · rename_i hc
        exfalso
        refine hp ⟨hc.2.1, ?_⟩
        unfold aJ
        rw [hT]
        simp only [if_pos hc.1]
        exact hc.2.2
      · rfl
    · rfl
theorem ax_zast {i a : Int32} {o : Nat} (hm : abMT[m]? = some mi) (hd : decode mi.by pc = .ok (.bastore, 1)) : aW d m pc L (.int a :: .int i :: .ref o :: S) h Q = ((inb i (aZ h o) ∧ b01 a) ∧ aW d m (pc + 1) L S (pI h o i.toNatClampNeg a) Q) := by
  refine ax_and hm hd (fun hp => ?_) (fun hp => ?_)
  · obtain ⟨⟨h1, h2⟩, h3⟩ := hp
    have h3 : a = 0 ∨ a = 1 := h3
    unfold aZ at h2
    simp only [ab_ins, ab_zast, if_true]
    split at h2
    · rename_i t n hT
      split at h2
      · rename_i ht
        simp only [hT]
        rw [if_pos (And.intro ht (And.intro (And.intro h1 h2) h3))]
        rfl
      · omega
    · omega
  · simp only [ab_ins, ab_zast, if_true]
    split
    · rename_i t n hT
      split
      · rename_i hc
        exfalso
        refine hp ⟨⟨hc.2.1.1, ?_⟩, hc.2.2⟩
        unfold aZ
        rw [hT]
        simp only [if_pos hc.1]
        exact hc.2.1.2
      · rfl
    · rfl
theorem ax_aast {i : Int32} {o a n n2 : Nat} (hm : abMT[m]? = some mi) (hd : decode mi.by pc = .ok (.aastore, 1)) (hT : gT h o = some (2, n)) (hT2 : gT h a = some (11, n2)) (hi : inb i n) : aW d m pc L (.ref a :: .int i :: .ref o :: S) h Q = aW d m (pc + 1) L S (pR h o i.toNatClampNeg (.ref a)) Q := ax hm hd (by simp only [ab_ins, ab_aast, hT, hT2, if_true, hi.1, hi.2, and_self]; rfl)
theorem ax_alen {o n : Nat} (hm : abMT[m]? = some mi) (hd : decode mi.by pc = .ok (.arraylength, 1)) (hT : gT h o = some (100, n) ∧ o = 0 ∨ gT h o = some (101, n) ∧ o = 1) : aW d m pc L (.ref o :: S) h Q = aW d m (pc + 1) L (.int (nI n) :: S) h Q := by
  rcases hT with ⟨hT, h0⟩ | ⟨hT, h0⟩
  · subst h0
    exact ax hm hd (by simp only [ab_ins, ab_alen, hT, if_true, and_self, true_or]; rfl)
  · subst h0
    exact ax hm hd (by simp only [ab_ins, ab_alen, hT, if_true, and_self, or_true]; rfl)
theorem ax_reti {a : Int32} (hm : abMT[m]? = some mi) (hd : decode mi.by pc = .ok (.ireturn, 1)) (hr : mi.rt = some .int) : aW d m pc L [.int a] h Q = Q (some (.int a)) h := by
  refine aW_ret (r := (some (.int a), h)) ?_ Q
  unfold ab_next
  rw [hm]
  simp only [hd, ab_ins, hr, true_or, if_true]
theorem ax_retz {a : Int32} (hm : abMT[m]? = some mi) (hd : decode mi.by pc = .ok (.ireturn, 1)) (hr : mi.rt = some .boolean) : aW d m pc L [.int a] h Q = (b01 a ∧ Q (some (.int a)) h) := by
  by_cases hp : b01 a
  · refine (aW_ret (r := (some (.int a), h)) ?_ Q).trans (propext ⟨fun q => ⟨hp, q⟩, fun q => q.2⟩)
    unfold ab_next
    rw [hm]
    simp only [hd, ab_ins, hr, if_true]
    exact if_pos (Or.inr ⟨trivial, hp⟩)
  · refine propext ⟨fun q => absurd q (axn hm hd ?_), fun q => absurd q.1 hp⟩
    simp only [ab_ins, hr, if_true]
    rw [if_neg]
    rintro (q | q)
    · cases q
    · exact hp q.2
theorem ax_retv (hm : abMT[m]? = some mi) (hd : decode mi.by pc = .ok (.return_, 1)) (hr : mi.rt = none) : aW d m pc L [] h Q = Q none h := by
  refine aW_ret (r := (none, h)) ?_ Q
  unfold ab_next
  rw [hm]
  simp only [hd, ab_ins, hr, if_true]
theorem ax_call {ins : Instr} {y pc' : Nat} {as S' : List Value} (hm : abMT[m]? = some mi) (hd : decode mi.by pc = .ok (ins, 3)) (e : ab_ins (d + 1) mi pc 3 L S h ins = some (.inr (.inr (y, as, pc', S')))) : aW (d + 1) m pc L S h Q = aM d y as h (fun v h1 => aW (d + 1) m pc' L (ab_ps v S') h1 Q) := by
  refine aW_call ?_ Q
  unfold ab_next
  rw [hm]
  simp only [hd]
  exact e
theorem ax_invs {ix y kd i1 i2 i3 : Nat} {mj : abMI} {as S' : List Value} (hm : abMT[m]? = some mi) (hd : decode mi.by pc = .ok (.invokestatic ix, 3)) (hx : ix < 4096) (hf : abCT.lookup (mi.cn * 4096 + ix) = some (y, kd, i1, i2, i3)) (hk : kd = 2 ∨ kd = 3) (hj : abMT[y]? = some mj) (hS : (mj.np ≤ S.length ∧ abCat (S.drop mj.np) ≤ 8 ∧ (ab_ent (S.take mj.np).reverse).length ≤ mj.mL) ∧ (S.take mj.np).reverse = as ∧ S.drop mj.np = S') : aW (d + 1) m pc L S h Q = aM d y as h (fun v h1 => aW (d + 1) m (pc + 3) L (ab_ps v S') h1 Q) := by
  obtain ⟨hc, rfl, rfl⟩ := hS
  refine ax_call hm hd ?_
  have h6 : kd ≠ 6 ∧ kd ≠ 7 ∧ kd ≠ 8 ∧ kd ≠ 9 := by omega
  simp only [ab_ins, ab_inv, hx, hf, hj, and_self, if_true, if_neg h6.1, if_neg h6.2.1, if_neg h6.2.2.1, if_neg h6.2.2.2, if_pos (And.intro hk True.intro), if_pos hc]
theorem ax_invv {ix y kd i1 i2 i3 o ci N : Nat} {mj : abMI} {as S' : List Value} (hm : abMT[m]? = some mi) (hd : decode mi.by pc = .ok (.invokevirtual ix, 3)) (hx : ix < 4096) (hf : abCT.lookup (mi.cn * 4096 + ix) = some (y, kd, i1, i2, i3)) (hk : kd = 0 ∨ kd = 1) (hj : abMT[y]? = some mj) (hS : (mj.np ≤ S.length ∧ abCat S' ≤ 8 ∧ (ab_ent (.ref o :: (S.take mj.np).reverse)).length ≤ mj.mL) ∧ (S.take mj.np).reverse = as ∧ S.drop mj.np = .ref o :: S' ∧ abCi.getD mj.cn 99 = ci) (hT : gT h o = some (ci + 3, N)) : aW (d + 1) m pc L S h Q = aM d y (.ref o :: as) h (fun v h1 => aW (d + 1) m (pc + 3) L (ab_ps v S') h1 Q) := by
  obtain ⟨hc, rfl, hdr, rfl⟩ := hS
  refine ax_call hm hd ?_
  have h6 : kd ≠ 6 ∧ kd ≠ 7 ∧ kd ≠ 8 ∧ kd ≠ 9 := by omega
  have hk2 : ¬ ((kd = 2 ∨ kd = 3) ∧ 0 = 1) := fun q => by cases q.2
  have hk3 : ((kd = 4 ∨ kd = 5) ∧ 0 = 2 ∨ (kd = 0 ∨ kd = 1) ∧ 0 = 0) := Or.inr ⟨hk, rfl⟩
  simp only [ab_ins, ab_inv, hx, hf, hj, and_self, if_true, if_neg h6.1, if_neg h6.2.1, if_neg h6.2.2.1, if_neg h6.2.2.2, if_neg hk2, hdr]
  rw [if_pos (Or.inr ⟨hk, trivial⟩)]
  exact if_pos ⟨hc.1, hc.2.1, hc.2.2, Or.inr (by rw [hT]; rfl)⟩
theorem ax_invi {ix y kd i1 i2 i3 o : Nat} {mj : abMI} {as S' : List Value} (hm : abMT[m]? = some mi) (hd : decode mi.by pc = .ok (.invokespecial ix, 3)) (hx : ix < 4096) (hf : abCT.lookup (mi.cn * 4096 + ix) = some (y, kd, i1, i2, i3)) (hk : kd = 4 ∨ kd = 5) (hj : abMT[y]? = some mj) (hS : (mj.np ≤ S.length ∧ abCat S' ≤ 8 ∧ (ab_ent (.ref o :: (S.take mj.np).reverse)).length ≤ mj.mL) ∧ (S.take mj.np).reverse = as ∧ S.drop mj.np = .ref o :: S') : aW (d + 1) m pc L S h Q = aM d y (.ref o :: as) h (fun v h1 => aW (d + 1) m (pc + 3) L (ab_ps v S') h1 Q) := by
  obtain ⟨hc, rfl, hdr⟩ := hS
  refine ax_call hm hd ?_
  have h6 : kd ≠ 6 ∧ kd ≠ 7 ∧ kd ≠ 8 ∧ kd ≠ 9 := by omega
  have hk2 : ¬ ((kd = 2 ∨ kd = 3) ∧ 2 = 1) := fun q => by cases q.2
  have hk3 : ((kd = 4 ∨ kd = 5) ∧ 2 = 2 ∨ (kd = 0 ∨ kd = 1) ∧ 2 = 0) := Or.inl ⟨hk, rfl⟩
  simp only [ab_ins, ab_inv, hx, hf, hj, and_self, if_true, if_neg h6.1, if_neg h6.2.1, if_neg h6.2.2.1, if_neg h6.2.2.2, if_neg hk2, hdr]
  rw [if_pos (Or.inl ⟨hk, trivial⟩)]
  exact if_pos ⟨hc.1, hc.2.1, hc.2.2, Or.inl trivial⟩
theorem ax_obj {ix y i1 i2 i3 o : Nat} (hm : abMT[m]? = some mi) (hd : decode mi.by pc = .ok (.invokespecial ix, 3)) (hx : ix < 4096) (hf : abCT.lookup (mi.cn * 4096 + ix) = some (y, 6, i1, i2, i3)) (hS : abCat S ≤ 8) : aW (d + 1) m pc L (.ref o :: S) h Q = aW (d + 1) m (pc + 3) L S h Q := ax hm hd (by simp only [ab_ins, ab_inv, hx, hf, and_self, if_true, if_pos (show True ∧ abCat S ≤ 8 ∧ 0 < d + 1 from ⟨trivial, hS, Nat.succ_pos d⟩)]; rfl)
theorem ax_max {ix y i1 i2 i3 : Nat} {a b : Int32} (hm : abMT[m]? = some mi) (hd : decode mi.by pc = .ok (.invokestatic ix, 3)) (hx : ix < 4096) (hf : abCT.lookup (mi.cn * 4096 + ix) = some (y, 8, i1, i2, i3)) (hS : abCat S ≤ 8) : aW (d + 1) m pc L (.int b :: .int a :: S) h Q = aW (d + 1) m (pc + 3) L (.int (iMax a b) :: S) h Q := ax hm hd (by simp only [ab_ins, ab_inv, hx, hf, and_self, if_true, if_neg (show ¬ 8 = 6 by decide), if_neg (show ¬ 8 = 7 by decide), if_pos (show True ∧ abCat S ≤ 8 ∧ 0 < d + 1 from ⟨trivial, hS, Nat.succ_pos d⟩)]; rfl)
theorem ax_min {ix y i1 i2 i3 : Nat} {a b : Int32} (hm : abMT[m]? = some mi) (hd : decode mi.by pc = .ok (.invokestatic ix, 3)) (hx : ix < 4096) (hf : abCT.lookup (mi.cn * 4096 + ix) = some (y, 9, i1, i2, i3)) (hS : abCat S ≤ 8) : aW (d + 1) m pc L (.int b :: .int a :: S) h Q = aW (d + 1) m (pc + 3) L (.int (iMin a b) :: S) h Q := ax hm hd (by simp only [ab_ins, ab_inv, hx, hf, and_self, if_true, if_neg (show ¬ 9 = 6 by decide), if_neg (show ¬ 9 = 7 by decide), if_neg (show ¬ 9 = 8 by decide), if_pos (show True ∧ abCat S ≤ 8 ∧ 0 < d + 1 from ⟨trivial, hS, Nat.succ_pos d⟩)]; rfl)
theorem ax_acpy {ix y i1 i2 i3 a0 a n0 n1 : Nat} {n dp sp : Int32} (hm : abMT[m]? = some mi) (hd : decode mi.by pc = .ok (.invokestatic ix, 3)) (hx : ix < 4096) (hf : abCT.lookup (mi.cn * 4096 + ix) = some (y, 7, i1, i2, i3)) (hS : abCat S ≤ 8) (hT0 : gT h a0 = some (0, n0)) (hT1 : gT h a = some (0, n1)) (hc : ¬ sp < 0 ∧ ¬ dp < 0 ∧ ¬ n < 0 ∧ sp.toNatClampNeg + n.toNatClampNeg ≤ n0 ∧ dp.toNatClampNeg + n.toNatClampNeg ≤ n1) : aW (d + 1) m pc L (.int n :: .int dp :: .ref a :: .int sp :: .ref a0 :: S) h Q = aW (d + 1) m (pc + 3) L S (pA h a (va_cpy (gI h a0) (gI h a) sp.toNatClampNeg dp.toNatClampNeg n.toNatClampNeg)) Q := ax hm hd (by
  simp only [ab_ins, ab_inv, hx, hf, and_self, if_true, if_neg (show ¬ 7 = 6 by decide), ab_acpy, hT0, hT1]
  rw [if_pos (⟨⟨trivial, trivial, hS, Nat.succ_pos d⟩, hc⟩)]
  rfl)
end AX
