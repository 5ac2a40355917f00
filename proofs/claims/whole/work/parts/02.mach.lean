/-! THE ABSTRACT MACHINE: numbers for cells, a heap of tags, ints and references; one instruction by 'decode'; runs with fuel -/
abbrev abH : Type := List (Nat × Nat) × (Nat → Nat → Int32) × (Nat → Nat → Value)
def gT (h : abH) (o : Nat) : Option (Nat × Nat) := h.1[o]?
def gI (h : abH) (o : Nat) : Nat → Int32 := h.2.1 o
def gR (h : abH) (o k : Nat) : Value := h.2.2 o k
/-- a row, or an object's whole numbers, becomes another one -/
def pA (h : abH) (o : Nat) (f : Nat → Int32) : abH := (h.1, fun o' => if o' = o then f else h.2.1 o', h.2.2)
def pI (h : abH) (o k : Nat) (v : Int32) : abH := pA h o (upd (gI h o) k v)
def pR (h : abH) (o k : Nat) (v : Value) : abH := (h.1, h.2.1, fun o' => if o' = o then (fun j => if j = k then v else h.2.2 o j) else h.2.2 o')
def nO (h : abH) (t n : Nat) : abH := (h.1 ++ [(t, n)], fun o => if o = h.1.length then fun _ => 0 else h.2.1 o, fun o => if o = h.1.length then fun _ => .null else h.2.2 o)
def iMax (a b : Int32) : Int32 := if a < b then b else a
def iMin (a b : Int32) : Int32 := if b < a then b else a
def abCat (S : List Value) : Nat := (S.map fun v => v.category).sum
abbrev un : Value := .retAddr 0
def isRf : Value → Bool
  | .ref _ => true
  | _ => false
abbrev abNx : Type := (Nat × List Value × List Value × abH) ⊕ (Option Value × abH) ⊕ (Nat × List Value × Nat × List Value)
def ab_go (pc : Nat) (L S : List Value) (h : abH) : Option abNx := some (.inl (pc, L, S, h))
def ab_ent : List Value → List Value
  | [] => []
  | .long w :: l => .long w :: .retAddr 1 :: ab_ent l
  | .double w :: l => .double w :: .retAddr 1 :: ab_ent l
  | v :: l => v :: ab_ent l
def ab_entry (maxL : Nat) (as : List Value) : List Value := ab_ent as ++ List.replicate (maxL - (ab_ent as).length) un
def ab_c (cd : Jvm.ClassFile.Cond) (a b : Int32) : Bool := match cd with
  | .eq => decide (a = b)
  | .ne => decide (¬ a = b)
  | .lt => decide (a < b)
  | .ge => decide (b ≤ a)
  | .gt => decide (b < a)
  | .le => decide (a ≤ b)
def ab_br (c : Bool) (pc : Nat) (off : Int) (L S : List Value) (h : abH) : Option abNx :=
  if 0 ≤ (pc : Int) + off then (if c = true then ab_go ((pc : Int) + off).toNat L S h else ab_go (pc + 3) L S h) else none
def ab_jp (pc : Nat) (off : Int) (L S : List Value) (h : abH) : Option abNx :=
  if 0 ≤ (pc : Int) + off then ab_go ((pc : Int) + off).toNat L S h else none
def ab_i2 (f : Int32 → Int32 → Int32) (pc : Nat) (L S : List Value) (h : abH) : Option abNx := match S with
  | .int b :: .int a :: S' => ab_go (pc + 1) L (.int (f a b) :: S') h
  | _ => none
def ab_ildK (k len pc : Nat) (L S : List Value) (h : abH) : Option abNx := match L[k]? with
  | some (.int a) => ab_go (pc + len) L (.int a :: S) h
  | _ => none
def ab_aldK (k len pc : Nat) (L S : List Value) (h : abH) : Option abNx := match L[k]? with
  | some (.ref a) => ab_go (pc + len) L (.ref a :: S) h
  | _ => none
def ab_istK (k len pc : Nat) (L S : List Value) (h : abH) : Option abNx := match S with
  | .int a :: S' => if k < L.length then ab_go (pc + len) (L.set k (.int a)) S' h else none
  | _ => none
def ab_astK (k len pc : Nat) (L S : List Value) (h : abH) : Option abNx := match S with
  | .ref a :: S' => if k < L.length then ab_go (pc + len) (L.set k (.ref a)) S' h else none
  | _ => none
/-- of a class with objects: which it is in the list of them -/
def abCi : List Nat := [0, 1, 99, 2, 3, 4, 5, 6, 7, 8, 9, 10, 11]
def abKd (ci k : Nat) : Nat := (abKs.getD ci []).getD k 9
def abFin (ci k : Nat) : Bool := match vwCl[ci]? with
  | some q => (q.2.1 k).2.2.2
  | none => true
def abDecl (ci k : Nat) : String := match vwCl[ci]? with
  | some q => (q.2.1 k).1
  | none => ""
abbrev abMI.nm (mi : abMI) : MethodName := mi.1
abbrev abMI.by (mi : abMI) : ByteArray := mi.2.1
abbrev abMI.mL (mi : abMI) : Nat := mi.2.2.1
abbrev abMI.rt (mi : abMI) : Option FieldType := mi.2.2.2.1
abbrev abMI.np (mi : abMI) : Nat := mi.2.2.2.2.1
abbrev abMI.cn (mi : abMI) : Nat := mi.2.2.2.2.2.1
abbrev abMI.iC (mi : abMI) : Nat := mi.2.2.2.2.2.2.1
abbrev abMI.iI (mi : abMI) : Nat := mi.2.2.2.2.2.2.2
def ab_get (mi : abMI) (ix pc : Nat) (L S : List Value) (h : abH) : Option abNx := match abFT.lookup (mi.cn * 4096 + ix) with
  | some (ci, k, _, _) => match S with
    | .ref o :: S' => match gT h o with
      | some (t, _) => if t = ci + 3 then (if abKd ci k = 2 then (if isRf (gR h o k) = true then ab_go (pc + 3) L (gR h o k :: S') h else none) else ab_go (pc + 3) L (.int (gI h o k) :: S') h) else none
      | none => none
    | _ => none
  | none => none
def ab_put (mi : abMI) (ix pc : Nat) (L S : List Value) (h : abH) : Option abNx := match abFT.lookup (mi.cn * 4096 + ix) with
  | some (ci, k, ne, _) => if abFin ci k = true ∧ ¬ (mi.nm.name = "<init>" ∧ abDecl ci k = mi.nm.cls ∧ ne = 0) then none else match S with
    | .int a :: .ref o :: S' => match gT h o with
      | some (t, _) => if t = ci + 3 ∧ (abKd ci k = 0 ∨ abKd ci k = 1 ∧ (a = 0 ∨ a = 1)) then ab_go (pc + 3) L S' (pI h o k a) else none
      | none => none
    | .ref a :: .ref o :: S' => match gT h o with
      | some (t, _) => if t = ci + 3 ∧ abKd ci k = 2 then ab_go (pc + 3) L S' (pR h o k (.ref a)) else none
      | none => none
    | _ => none
  | none => none
def ab_new (mi : abMI) (ix pc : Nat) (L S : List Value) (h : abH) : Option abNx := match abNT.lookup (mi.cn * 4096 + ix) with
  | some (ci, _) => if ci < 12 then ab_go (pc + 3) L (.ref h.1.length :: S) (nO h (ci + 3) (abKs.getD ci []).length) else none
  | none => none
def ab_newa (t pc : Nat) (L S : List Value) (h : abH) : Option abNx := match S with
  | .int n :: S' => if ¬ n < 0 ∧ n.toNatClampNeg ≤ 100000 then ab_go (pc + 2) L (.ref h.1.length :: S') (nO h t n.toNatClampNeg) else none
  | _ => none
def ab_newq (mi : abMI) (ix pc : Nat) (L S : List Value) (h : abH) : Option abNx := match abNT.lookup (mi.cn * 4096 + ix) with
  | some (ci, _) => match S with
    | .int n :: S' => if ci = 8 ∧ ¬ n < 0 ∧ n.toNatClampNeg ≤ 100000 then ab_go (pc + 3) L (.ref h.1.length :: S') (nO h 2 n.toNatClampNeg) else none
    | _ => none
  | none => none
def ab_iald (pc : Nat) (L S : List Value) (h : abH) : Option abNx := match S with
  | .int i :: .ref o :: S' => match gT h o with
    | some (t, n) => if (t = 0 ∨ t = 100 ∧ o = 0 ∨ t = 101 ∧ o = 1) ∧ 0 ≤ i ∧ i.toNatClampNeg < n then ab_go (pc + 1) L (.int (gI h o i.toNatClampNeg) :: S') h else none
    | none => none
  | _ => none
def ab_zald (pc : Nat) (L S : List Value) (h : abH) : Option abNx := match S with
  | .int i :: .ref o :: S' => match gT h o with
    | some (t, n) => if t = 1 ∧ 0 ≤ i ∧ i.toNatClampNeg < n then ab_go (pc + 1) L (.int (gI h o i.toNatClampNeg) :: S') h else none
    | none => none
  | _ => none
def ab_aald (pc : Nat) (L S : List Value) (h : abH) : Option abNx := match S with
  | .int i :: .ref o :: S' => match gT h o with
    | some (t, n) => if t = 2 ∧ (0 ≤ i ∧ i.toNatClampNeg < n) ∧ isRf (gR h o i.toNatClampNeg) = true then ab_go (pc + 1) L (gR h o i.toNatClampNeg :: S') h else none
    | none => none
  | _ => none
def ab_iast (pc : Nat) (L S : List Value) (h : abH) : Option abNx := match S with
  | .int a :: .int i :: .ref o :: S' => match gT h o with
    | some (t, n) => if t = 0 ∧ 0 ≤ i ∧ i.toNatClampNeg < n then ab_go (pc + 1) L S' (pI h o i.toNatClampNeg a) else none
    | none => none
  | _ => none
def ab_zast (pc : Nat) (L S : List Value) (h : abH) : Option abNx := match S with
  | .int a :: .int i :: .ref o :: S' => match gT h o with
    | some (t, n) => if t = 1 ∧ (0 ≤ i ∧ i.toNatClampNeg < n) ∧ (a = 0 ∨ a = 1) then ab_go (pc + 1) L S' (pI h o i.toNatClampNeg a) else none
    | none => none
  | _ => none
def ab_aast (pc : Nat) (L S : List Value) (h : abH) : Option abNx := match S with
  | .ref a :: .int i :: .ref o :: S' => match gT h o with
    | some (t, n) => match gT h a with
      | some (t2, _) => if t = 2 ∧ (0 ≤ i ∧ i.toNatClampNeg < n) ∧ t2 = 11 then ab_go (pc + 1) L S' (pR h o i.toNatClampNeg (.ref a)) else none
      | none => none
    | none => none
  | _ => none
def ab_alen (pc : Nat) (L S : List Value) (h : abH) : Option abNx := match S with
  | .ref o :: S' => match gT h o with
    | some (t, n) => if t = 100 ∧ o = 0 ∨ t = 101 ∧ o = 1 then ab_go (pc + 1) L (.int (nI n) :: S') h else none
    | none => none
  | _ => none
def ab_acpy (d pc : Nat) (L S : List Value) (h : abH) : Option abNx := match S with
  | .int n :: .int dp :: .ref a :: .int sp :: .ref a0 :: S' => match gT h a0 with
    | some (t0, n0) => match gT h a with
      | some (t1, n1) => if (t0 = 0 ∧ t1 = 0 ∧ abCat S' ≤ 8 ∧ 0 < d) ∧ ¬ sp < 0 ∧ ¬ dp < 0 ∧ ¬ n < 0 ∧ sp.toNatClampNeg + n.toNatClampNeg ≤ n0 ∧ dp.toNatClampNeg + n.toNatClampNeg ≤ n1 then
          ab_go (pc + 3) L S' (pA h a (va_cpy (gI h a0) (gI h a) sp.toNatClampNeg dp.toNatClampNeg n.toNatClampNeg)) else none
      | none => none
    | none => none
  | _ => none
def ab_inv (d : Nat) (op : Nat) (mi : abMI) (ix pc : Nat) (L S : List Value) (h : abH) : Option abNx := match abCT.lookup (mi.cn * 4096 + ix) with
  | some (y, kd, _, _, _) =>
    if kd = 6 then (match S with
      | .ref _ :: S' => if op = 2 ∧ abCat S' ≤ 8 ∧ 0 < d then ab_go (pc + 3) L S' h else none
      | _ => none)
    else if kd = 7 then (if op = 1 then ab_acpy d pc L S h else none)
    else if kd = 8 then (match S with
      | .int b :: .int a :: S' => if op = 1 ∧ abCat S' ≤ 8 ∧ 0 < d then ab_go (pc + 3) L (.int (iMax a b) :: S') h else none
      | _ => none)
    else if kd = 9 then (match S with
      | .int b :: .int a :: S' => if op = 1 ∧ abCat S' ≤ 8 ∧ 0 < d then ab_go (pc + 3) L (.int (iMin a b) :: S') h else none
      | _ => none)
    else match abMT[y]? with
      | some mj =>
        if (kd = 2 ∨ kd = 3) ∧ op = 1 then (if mj.np ≤ S.length ∧ abCat (S.drop mj.np) ≤ 8 ∧ (ab_ent (S.take mj.np).reverse).length ≤ mj.mL then some (.inr (.inr (y, (S.take mj.np).reverse, pc + 3, S.drop mj.np))) else none)
        else if (kd = 4 ∨ kd = 5) ∧ op = 2 ∨ (kd = 0 ∨ kd = 1) ∧ op = 0 then (match S.drop mj.np with
          | .ref o :: S' => if mj.np ≤ S.length ∧ abCat S' ≤ 8 ∧ (ab_ent (.ref o :: (S.take mj.np).reverse)).length ≤ mj.mL ∧ (op = 2 ∨ (gT h o).map (·.1) = some (abCi.getD mj.cn 99 + 3)) then some (.inr (.inr (y, .ref o :: (S.take mj.np).reverse, pc + 3, S'))) else none
          | _ => none)
        else none
      | none => none
  | none => none
def ab_ins (d : Nat) (mi : abMI) (pc len : Nat) (L S : List Value) (h : abH) (ins : Instr) : Option abNx := match ins with
  | .iconst n => if len = 1 then ab_go (pc + 1) L (.int (Int32.ofInt n) :: S) h else none
  | .bipush n => if len = 2 then ab_go (pc + 2) L (.int (Int8.ofInt n).toInt32 :: S) h else none
  | .sipush n => if len = 3 then ab_go (pc + 3) L (.int (Int16.ofInt n).toInt32 :: S) h else none
  | .ldc ix => if len = 2 ∧ ix < 4096 then (match abKT.lookup (mi.cn * 4096 + ix) with | some (v, _) => ab_go (pc + 2) L (.int v :: S) h | none => none) else none
  | .ldc_w ix => if len = 3 ∧ ix < 4096 then (match abKT.lookup (mi.cn * 4096 + ix) with | some (v, _) => ab_go (pc + 3) L (.int v :: S) h | none => none) else none
  | .ldc2_w ix => if len = 3 ∧ ix < 4096 then (match abLT.lookup (mi.cn * 4096 + ix) with | some (v, _) => ab_go (pc + 3) L (.long v :: S) h | none => none) else none
  | .iload_n k => if len = 1 then ab_ildK k 1 pc L S h else none
  | .iload k => if len = 2 then ab_ildK k 2 pc L S h else none
  | .aload_n k => if len = 1 then ab_aldK k 1 pc L S h else none
  | .aload k => if len = 2 then ab_aldK k 2 pc L S h else none
  | .lload_n k => if len = 1 then (match L[(k : Nat)]? with | some (.long a) => if L[(k : Nat) + 1]? = some (.retAddr 1) then ab_go (pc + 1) L (.long a :: S) h else none | _ => none) else none
  | .istore_n k => if len = 1 then ab_istK k 1 pc L S h else none
  | .istore k => if len = 2 then ab_istK k 2 pc L S h else none
  | .astore_n k => if len = 1 then ab_astK k 1 pc L S h else none
  | .astore k => if len = 2 then ab_astK k 2 pc L S h else none
  | .iinc k n => if len = 3 then (match L[k]? with | some (.int a) => ab_go (pc + 3) (L.set k (.int (a + Int32.ofInt n))) S h | _ => none) else none
  | .pop => if len = 1 then (match S with | .int _ :: S' => ab_go (pc + 1) L S' h | _ => none) else none
  | .dup => if len = 1 then (match S with | .int a :: S' => ab_go (pc + 1) L (.int a :: .int a :: S') h | .ref a :: S' => ab_go (pc + 1) L (.ref a :: .ref a :: S') h | _ => none) else none
  | .dup2 => if len = 1 then (match S with | .int a :: .ref b :: S' => ab_go (pc + 1) L (.int a :: .ref b :: .int a :: .ref b :: S') h | _ => none) else none
  | .iadd => if len = 1 then ab_i2 (· + ·) pc L S h else none
  | .isub => if len = 1 then ab_i2 (· - ·) pc L S h else none
  | .imul => if len = 1 then ab_i2 (· * ·) pc L S h else none
  | .idiv => if len = 1 then (match S with | .int b :: .int a :: S' => if b = 0 then none else ab_go (pc + 1) L (.int (a / b) :: S') h | _ => none) else none
  | .iand => if len = 1 then ab_i2 (· &&& ·) pc L S h else none
  | .ior => if len = 1 then ab_i2 (· ||| ·) pc L S h else none
  | .ixor => if len = 1 then ab_i2 (· ^^^ ·) pc L S h else none
  | .ishl => if len = 1 then ab_i2 (fun a b => a <<< (b &&& 31)) pc L S h else none
  | .ishr => if len = 1 then ab_i2 (fun a b => a >>> (b &&& 31)) pc L S h else none
  | .iushr => if len = 1 then ab_i2 (fun a b => (a.toUInt32 >>> (b.toUInt32 &&& Int32.toUInt32 31)).toInt32) pc L S h else none
  | .i2l => if len = 1 then (match S with | .int a :: S' => ab_go (pc + 1) L (.long a.toInt64 :: S') h | _ => none) else none
  | .l2i => if len = 1 then (match S with | .long a :: S' => ab_go (pc + 1) L (.int a.toInt32 :: S') h | _ => none) else none
  | .i2b => if len = 1 then (match S with | .int a :: S' => ab_go (pc + 1) L (.int a.toInt8.toInt32 :: S') h | _ => none) else none
  | .i2s => if len = 1 then (match S with | .int a :: S' => ab_go (pc + 1) L (.int a.toInt16.toInt32 :: S') h | _ => none) else none
  | .land => if len = 1 then (match S with | .long b :: .long a :: S' => ab_go (pc + 1) L (.long (a &&& b) :: S') h | _ => none) else none
  | .lor => if len = 1 then (match S with | .long b :: .long a :: S' => ab_go (pc + 1) L (.long (a ||| b) :: S') h | _ => none) else none
  | .lshl => if len = 1 then (match S with | .int b :: .long a :: S' => ab_go (pc + 1) L (.long (a <<< (b.toInt64 &&& 63)) :: S') h | _ => none) else none
  | .lshr => if len = 1 then (match S with | .int b :: .long a :: S' => ab_go (pc + 1) L (.long (a >>> (b.toInt64 &&& 63)) :: S') h | _ => none) else none
  | .lushr => if len = 1 then (match S with | .int b :: .long a :: S' => ab_go (pc + 1) L (.long (a.toUInt64 >>> (b.toInt64.toUInt64 &&& Int64.toUInt64 63)).toInt64 :: S') h | _ => none) else none
  | .ifCond cd off => if len = 3 then (match S with | .int a :: S' => ab_br (ab_c cd a 0) pc off L S' h | _ => none) else none
  | .if_icmp cd off => if len = 3 then (match S with | .int b :: .int a :: S' => ab_br (ab_c cd a b) pc off L S' h | _ => none) else none
  | .goto off => if len = 3 then ab_jp pc off L S h else none
  | .tableswitch df lo hi offs => (match S with
    | .int a :: S' => if a.toInt < lo ∨ hi < a.toInt then ab_jp pc df L S' h else (match offs[(a.toInt - lo).toNat]? with | some off => ab_jp pc off L S' h | none => none)
    | _ => none)
  | .lookupswitch df ps => (match S with
    | .int a :: S' => if (ps.toList.zip (ps.toList.drop 1)).all (fun (a, next) => a.1 < next.1) = true then ab_jp pc (Op.lookupswitch.offset ps.toList df a.toInt) L S' h else none
    | _ => none)
  | .getfield ix => if len = 3 ∧ ix < 4096 then ab_get mi ix pc L S h else none
  | .putfield ix => if len = 3 ∧ ix < 4096 then ab_put mi ix pc L S h else none
  | .getstatic ix => if len = 3 ∧ ix < 4096 then (match abST.lookup (mi.cn * 4096 + ix) with | some _ => ab_go (pc + 3) L (.ref 1 :: S) h | none => none) else none
  | .new ix => if len = 3 ∧ ix < 4096 then ab_new mi ix pc L S h else none
  | .newarray .int => if len = 2 then ab_newa 0 pc L S h else none
  | .newarray .boolean => if len = 2 then ab_newa 1 pc L S h else none
  | .anewarray ix => if len = 3 ∧ ix < 4096 then ab_newq mi ix pc L S h else none
  | .iaload => if len = 1 then ab_iald pc L S h else none
  | .baload => if len = 1 then ab_zald pc L S h else none
  | .aaload => if len = 1 then ab_aald pc L S h else none
  | .iastore => if len = 1 then ab_iast pc L S h else none
  | .bastore => if len = 1 then ab_zast pc L S h else none
  | .aastore => if len = 1 then ab_aast pc L S h else none
  | .arraylength => if len = 1 then ab_alen pc L S h else none
  | .invokevirtual ix => if len = 3 ∧ ix < 4096 then ab_inv d 0 mi ix pc L S h else none
  | .invokestatic ix => if len = 3 ∧ ix < 4096 then ab_inv d 1 mi ix pc L S h else none
  | .invokespecial ix => if len = 3 ∧ ix < 4096 then ab_inv d 2 mi ix pc L S h else none
  | .ireturn => if len = 1 then (match S with
    | [.int a] => if mi.rt = some .int ∨ mi.rt = some .boolean ∧ (a = 0 ∨ a = 1) then some (.inr (.inl (some (.int a), h))) else none
    | _ => none) else none
  | .return_ => if len = 1 then (match S with
    | [] => if mi.rt = none then some (.inr (.inl (none, h))) else none
    | _ => none) else none
  | _ => none
def ab_next (d m pc : Nat) (L S : List Value) (h : abH) : Option abNx := match abMT[m]? with
  | none => none
  | some mi => match decode mi.by pc with
    | .ok (ins, len) => ab_ins d mi pc len L S h ins
    | .error _ => none
def ab_start (y : Nat) (as : List Value) : List Value := match abMT[y]? with
  | some mi => ab_entry mi.mL as
  | none => []
def ab_ps : Option Value → List Value → List Value
  | some v, S => v :: S
  | none, S => S
def ab_run : Nat → Nat → Nat → Nat → List Value → List Value → abH → Option (Option Value × abH)
  | 0, _, _, _, _, _, _ => none
  | n + 1, d, m, pc, L, S, h => match ab_next d m pc L S h with
    | none => none
    | some (.inl (pc', L', S', h')) => ab_run n d m pc' L' S' h'
    | some (.inr (.inl r)) => some r
    | some (.inr (.inr (y, as, pc', S'))) => match d with
      | 0 => none
      | d' + 1 => match ab_run n d' y 0 (ab_start y as) [] h with
        | none => none
        | some (v, h1) => ab_run n (d' + 1) m pc' L (ab_ps v S') h1
theorem ab_run_mono : ∀ (n d m pc : Nat) (L S : List Value) (h : abH) (r : Option Value × abH), ab_run n d m pc L S h = some r → ab_run (n + 1) d m pc L S h = some r := by
  intro n
  induction n with
  | zero => intro d m pc L S h r e; cases e
  | succ n ih =>
    intro d m pc L S h r e
    rw [ab_run] at e ⊢
    split at e <;> rename_i q
    · cases e
    · exact ih _ _ _ _ _ _ _ e
    · exact e
    · cases d with
      | zero => cases e
      | succ d' =>
        simp only at e ⊢
        split at e <;> rename_i q2
        · cases e
        · rw [ih _ _ _ _ _ _ _ q2]
          exact ih _ _ _ _ _ _ _ e
theorem ab_run_le {n k d m pc : Nat} {L S : List Value} {h : abH} {r : Option Value × abH} (e : ab_run n d m pc L S h = some r) (hk : n ≤ k) : ab_run k d m pc L S h = some r := by
  obtain ⟨j, rfl⟩ := Nat.exists_eq_add_of_le hk
  induction j with
  | zero => exact e
  | succ j ih => exact ab_run_mono _ _ _ _ _ _ _ _ (ih (Nat.le_add_right _ _))
def aW (d m pc : Nat) (L S : List Value) (h : abH) (Q : Option Value → abH → Prop) : Prop := ∃ n r, ab_run n d m pc L S h = some r ∧ Q r.1 r.2
/-- a call of a method, at a depth -/
def aM (d y : Nat) (as : List Value) (h : abH) (Q : Option Value → abH → Prop) : Prop := aW d y 0 (ab_start y as) [] h Q
theorem aW_go {d m pc pc' : Nat} {L S L' S' : List Value} {h h' : abH} (e : ab_next d m pc L S h = some (.inl (pc', L', S', h'))) (Q : Option Value → abH → Prop) : aW d m pc L S h Q = aW d m pc' L' S' h' Q := by
  apply propext
  constructor
  · rintro ⟨n, r, hr, hq⟩
    cases n with
    | zero => cases hr
    | succ n =>
      rw [ab_run, e] at hr
      exact ⟨n, r, hr, hq⟩
  · rintro ⟨n, r, hr, hq⟩
    refine ⟨n + 1, r, ?_, hq⟩
    rw [ab_run, e]
    exact hr
theorem aW_ret {d m pc : Nat} {L S : List Value} {h : abH} {r : Option Value × abH} (e : ab_next d m pc L S h = some (.inr (.inl r))) (Q : Option Value → abH → Prop) : aW d m pc L S h Q = Q r.1 r.2 := by
  apply propext
  constructor
  · rintro ⟨n, r', hr, hq⟩
    cases n with
    | zero => cases hr
    | succ n =>
      rw [ab_run, e] at hr
      cases hr
      exact hq
  · intro hq
    refine ⟨1, r, ?_, hq⟩
    rw [ab_run, e]
theorem aW_call {d m pc pc' y : Nat} {L S S' as : List Value} {h : abH} (e : ab_next (d + 1) m pc L S h = some (.inr (.inr (y, as, pc', S')))) (Q : Option Value → abH → Prop) : aW (d + 1) m pc L S h Q = aM d y as h (fun v h1 => aW (d + 1) m pc' L (ab_ps v S') h1 Q) := by
  apply propext
  constructor
  · rintro ⟨n, r, hr, hq⟩
    cases n with
    | zero => cases hr
    | succ n =>
      rw [ab_run, e] at hr
      simp only at hr
      split at hr <;> rename_i q
      · cases hr
      · exact ⟨n, _, q, n, r, hr, hq⟩
  · rintro ⟨n, ⟨v, h1⟩, hr, n2, r2, hr2, hq⟩
    refine ⟨n + n2 + 1, r2, ?_, hq⟩
    rw [ab_run, e]
    simp only
    rw [ab_run_le hr (Nat.le_add_right n n2)]
    exact ab_run_le hr2 (Nat.le_add_left n2 n)
theorem aW_imp {d m pc : Nat} {L S : List Value} {h : abH} {Q Q' : Option Value → abH → Prop} (hq : ∀ v h', Q v h' → Q' v h') (w : aW d m pc L S h Q) : aW d m pc L S h Q' := by
  obtain ⟨n, r, hr, q⟩ := w
  exact ⟨n, r, hr, hq _ _ q⟩
theorem aM_imp {d y : Nat} {as : List Value} {h : abH} {Q Q' : Option Value → abH → Prop} (hq : ∀ v h', Q v h' → Q' v h') (w : aM d y as h Q) : aM d y as h Q' := aW_imp hq w
