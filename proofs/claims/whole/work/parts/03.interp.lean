/-! ===== the abstract machine: values (a reference is its place in the list of cells; .retAddr j a thing that is only read), cells, steps ===== -/
/-- a cell: an object (class, fields), a row of ints, a row of longs -/
abbrev AC : Type := (Nat × List Value) ⊕ (List Int32 ⊕ List Int64)
abbrev ALs : Type := List (Option Value)
abbrev ARs : Type := Option (Option Value × List AC)
abbrev Cf : Type := Nat × ALs × List Value × List AC
def lgt (ls : ALs) (i : Nat) : Option Value := match ls[i]? with
  | some o => o
  | none => none
def lcl (ls : ALs) (i : Nat) : ALs := match i with
  | 0 => ls
  | j + 1 => match ls[j]? with
    | some (some v) => if v.category = 2 then ls.set j none else ls
    | _ => ls
def lst1 (ls : ALs) (i : Nat) (v : Value) : ALs := (lcl ls i).set i (some v)
def lst2 (ls : ALs) (i : Nat) (v : Value) : ALs := ((lcl ls i).set i (some v)).set (i + 1) none
/-- strings: their bytes -/
def bytS : List (List Int32) := [[115, 108, 111, 112, 101], [114, 111, 119], [115, 101, 101, 115], [119, 97, 108, 108], [115, 105, 103, 110], [114, 117, 109, 111, 117, 114], [100, 111, 117, 98, 116, 101, 100], [98, 101, 108, 105, 101, 118, 101, 100], [98, 101, 97, 114, 115], [104, 97, 105, 108], [112, 108, 97, 105, 110], [111, 108, 100], [110, 101, 119], [100, 101, 97, 102], [102, 97, 105, 116, 104], [103, 114, 97, 112, 101, 115], [98, 121], [99, 111, 115, 116, 115], [100, 97, 121]]
/-- slots of an object of a class -/
def nslT : List Nat := [1, 6, 8, 4, 9, 4, 8, 8, 4, 3, 7, 16, 40, 6]
/-- the fields' types, class by class -/
def ftyT : List (List FieldType) := [[.array .int], [.object "NorthVines$Slope", .object "NorthVines$Walk", .boolean, .int, .int, .int], [.object "NorthVines$Slope", .object "NorthVines$Walk", .object "NorthVines$Cells", .object "NorthVines$Cells", .object "NorthVines$Cells", .object "NorthVines$Cells", .int, .int], [.object "NorthVines$Slope", .object "NorthVines$Walk", .long, .long], [.object "NorthVines$Cells", .object "NorthVines$Slope", .int, .int, .int, .int, .boolean, .int, .int], [.int, .object "NorthVines$Cells", .int, .int], [.int, .int, .object "NorthVines$Table", .object "NorthVines$Table", .object "NorthVines$Table", .object "NorthVines$Table", .object "NorthVines$Table", .object "NorthVines$Table"], [.object "NorthVines$Slope", .object "NorthVines$Walk", .object "NorthVines$State", .object "NorthVines$Cells", .object "NorthVines$Cells", .int, .int, .int], [.object "NorthVines$Cells", .int, .int, .int], [.int, .array .int, .int], [.object "NorthVines$Slope", .object "NorthVines$State", .object "NorthVines$Cells", .object "NorthVines$Cells", .object "NorthVines$Cells", .int, .int], [.object "NorthVines$Cells", .int, .object "NorthVines$Slope", .object "NorthVines$Slope", .object "NorthVines$Reader", .object "NorthVines$State", .object "NorthVines$Walk", .object "NorthVines$Choice", .object "NorthVines$Source", .object "NorthVines$Game", .object "NorthVines$Hail", .object "NorthVines$Shelf", .object "NorthVines$Shelf", .int, .int, .int], [.int, .array .int, .int, .int, .int, .int, .int, .int, .int, .int, .int, .int, .array .int, .boolean, .boolean, .array .int, .array .int, .array .int, .array .int, .array .int, .int, .int, .int, .array .int, .array .int, .array .int, .array .int, .array .int, .int, .int, .int, .int, .int, .array .int, .array .int, .long, .long, .long, .long, .int]]
def fty (ci f : Nat) : FieldType := (ftyT.getD ci []).getD f .int
def fdef (ci : Nat) : List Value := (ftyT.getD ci []).map defaultValue
def fok (ty : FieldType) (v : Value) : Bool := match ty, v with
  | .int, .int _ => true
  | .boolean, .int x => x == 0 || x == 1
  | .long, .long _ => true
  | .object _, .ref _ => true
  | .array _, .ref _ => true
  | _, _ => false
def inb (i : Int32) (n : Nat) : Bool := decide (¬ (i < 0 ∨ n ≤ i.toNatClampNeg))
/-- a value, a frame, a heap hold no reference from n on -/
def vok (n : Nat) (v : Value) : Bool := match v with
  | .ref a => decide (a < n)
  | _ => true
def lok (n : Nat) (ls : ALs) : Bool := ls.all (fun o => match o with | some v => vok n v | none => true)
def sok (n : Nat) (st : List Value) : Bool := st.all (vok n)
def hok (n : Nat) (H : List AC) : Bool := H.all (fun c => match c with | .inl (_, fs) => fs.all (vok n) | _ => true)
def csz (c : AC) : Nat := match c with
  | .inl (ci, _) => nslT.getD ci 0
  | .inr (.inl xs) => xs.length
  | .inr (.inr xs) => xs.length
def hsz (H : List AC) : Nat := (H.map csz).sum
def jto (pc : Nat) (off : Int) (ls : ALs) (st : List Value) (H : List AC) : Option Cf := if 0 ≤ (pc : Int) + off then some (((pc : Int) + off).toNat, ls, st, H) else none
def gfl (H : List AC) (a ci f : Nat) : Option Value := match H[a]? with
  | some (.inl (c, fs)) => if c = ci then fs[f]? else none
  | _ => none
def garr (H : List AC) (a : Nat) : Option (List Int32) := match H[a]? with
  | some (.inr (.inl xs)) => some xs
  | _ => none
def garl (H : List AC) (a : Nat) : Option (List Int64) := match H[a]? with
  | some (.inr (.inr xs)) => some xs
  | _ => none
def hpf (H : List AC) (a f : Nat) (v : Value) : List AC := match H[a]? with
  | some (.inl (c, fs)) => H.set a (.inl (c, fs.set f v))
  | _ => H
def hpa (H : List AC) (a : Nat) (xs : List Int32) : List AC := match H[a]? with
  | some (.inr (.inl _)) => H.set a (.inr (.inl xs))
  | _ => H
def hpl (H : List AC) (a : Nat) (xs : List Int64) : List AC := match H[a]? with
  | some (.inr (.inr _)) => H.set a (.inr (.inr xs))
  | _ => H
/-- an instruction that neither calls nor returns -/
def bstep (scr : List Int32) (k pc : Nat) (i : Instr) (ops : List Nat) (ls : ALs) (st : List Value) (H : List AC) : Option Cf :=
  match i with
  | .iconst n => some (pc + 1, ls, .int (Int32.ofInt n) :: st, H)
  | .bipush n => some (pc + 2, ls, .int (Int8.ofInt n).toInt32 :: st, H)
  | .sipush n => some (pc + 3, ls, .int (Int16.ofInt n).toInt32 :: st, H)
  | .lconst n => some (pc + 1, ls, .long (Int64.ofNat n) :: st, H)
  | .ldc _ => match ops with
    | [0, j, _] => some (pc + 2, ls, .retAddr j :: st, H)
    | [1, v, _] => some (pc + 2, ls, .int (Int32.ofNat v) :: st, H)
    | _ => none
  | .ldc_w _ => match ops with
    | [v, _] => some (pc + 3, ls, .int (Int32.ofNat v) :: st, H)
    | _ => none
  | .ldc2_w _ => match ops with
    | [0, v, _] => some (pc + 3, ls, .long (Int64.ofNat v) :: st, H)
    | [1, v, _] => some (pc + 3, ls, .long (-(Int64.ofNat v)) :: st, H)
    | _ => none
  | .iload_n n => match lgt ls n with
    | some (.int x) => some (pc + 1, ls, .int x :: st, H)
    | _ => none
  | .iload n => match lgt ls n with
    | some (.int x) => some (pc + 2, ls, .int x :: st, H)
    | _ => none
  | .lload_n n => match lgt ls n with
    | some (.long x) => some (pc + 1, ls, .long x :: st, H)
    | _ => none
  | .lload n => match lgt ls n with
    | some (.long x) => some (pc + 2, ls, .long x :: st, H)
    | _ => none
  | .aload_n n => match lgt ls n with
    | some (.ref x) => some (pc + 1, ls, .ref x :: st, H)
    | some (.retAddr x) => if x < 200 ∨ x = 1000 then some (pc + 1, ls, .retAddr x :: st, H) else none
    | _ => none
  | .istore_n n => match st with
    | .int x :: r => if (n : Nat) < ls.length then some (pc + 1, lst1 ls n (.int x), r, H) else none
    | _ => none
  | .istore n => match st with
    | .int x :: r => if n < ls.length then some (pc + 2, lst1 ls n (.int x), r, H) else none
    | _ => none
  | .lstore_n n => match st with
    | .long x :: r => if (n : Nat) + 1 < ls.length then some (pc + 1, lst2 ls n (.long x), r, H) else none
    | _ => none
  | .lstore n => match st with
    | .long x :: r => if n + 1 < ls.length then some (pc + 2, lst2 ls n (.long x), r, H) else none
    | _ => none
  | .astore_n n => match st with
    | .ref x :: r => if (n : Nat) < ls.length then some (pc + 1, lst1 ls n (.ref x), r, H) else none
    | _ => none
  | .iinc n c => match lgt ls n with
    | some (.int x) => if n < ls.length then some (pc + 3, lst1 ls n (.int (x + Int32.ofInt c)), st, H) else none
    | _ => none
  | .iadd => match st with
    | .int y :: .int x :: r => some (pc + 1, ls, .int (x + y) :: r, H)
    | _ => none
  | .isub => match st with
    | .int y :: .int x :: r => some (pc + 1, ls, .int (x - y) :: r, H)
    | _ => none
  | .imul => match st with
    | .int y :: .int x :: r => some (pc + 1, ls, .int (x * y) :: r, H)
    | _ => none
  | .idiv => match st with
    | .int y :: .int x :: r => if y = 0 then none else some (pc + 1, ls, .int (x / y) :: r, H)
    | _ => none
  | .irem => match st with
    | .int y :: .int x :: r => if y = 0 then none else some (pc + 1, ls, .int (x - x / y * y) :: r, H)
    | _ => none
  | .iand => match st with
    | .int y :: .int x :: r => some (pc + 1, ls, .int (x &&& y) :: r, H)
    | _ => none
  | .ior => match st with
    | .int y :: .int x :: r => some (pc + 1, ls, .int (x ||| y) :: r, H)
    | _ => none
  | .ixor => match st with
    | .int y :: .int x :: r => some (pc + 1, ls, .int (x ^^^ y) :: r, H)
    | _ => none
  | .ishl => match st with
    | .int y :: .int x :: r => some (pc + 1, ls, .int (x <<< (y &&& 31)) :: r, H)
    | _ => none
  | .ishr => match st with
    | .int y :: .int x :: r => some (pc + 1, ls, .int (x >>> (y &&& 31)) :: r, H)
    | _ => none
  | .iushr => match st with
    | .int y :: .int x :: r => some (pc + 1, ls, .int (x.toUInt32 >>> (y.toUInt32 &&& Int32.toUInt32 31)).toInt32 :: r, H)
    | _ => none
  | .ineg => match st with
    | .int x :: r => some (pc + 1, ls, .int (-x) :: r, H)
    | _ => none
  | .ladd => match st with
    | .long y :: .long x :: r => some (pc + 1, ls, .long (x + y) :: r, H)
    | _ => none
  | .lmul => match st with
    | .long y :: .long x :: r => some (pc + 1, ls, .long (x * y) :: r, H)
    | _ => none
  | .ldiv => match st with
    | .long y :: .long x :: r => if y = 0 then none else some (pc + 1, ls, .long (x / y) :: r, H)
    | _ => none
  | .lrem => match st with
    | .long y :: .long x :: r => if y = 0 then none else some (pc + 1, ls, .long (x - x / y * y) :: r, H)
    | _ => none
  | .lcmp => match st with
    | .long y :: .long x :: r => some (pc + 1, ls, .int (lg_cmp x y) :: r, H)
    | _ => none
  | .i2l => match st with
    | .int x :: r => some (pc + 1, ls, .long x.toInt64 :: r, H)
    | _ => none
  | .i2c => match st with
    | .int x :: r => some (pc + 1, ls, .int (x.toUInt32 % 65536).toInt32 :: r, H)
    | _ => none
  | .dup => match st with
    | v :: r => if v.category = 1 then some (pc + 1, ls, v :: v :: r, H) else none
    | _ => none
  | .dup2 => match st with
    | v :: w :: r => if v.category = 1 ∧ w.category = 1 then some (pc + 1, ls, v :: w :: v :: w :: r, H) else none
    | _ => none
  | .pop => match st with
    | v :: r => if v.category = 1 then some (pc + 1, ls, r, H) else none
    | _ => none
  | .getfield _ => match st, ops with
    | .ref a :: r, ci :: f :: _ => match gfl H a ci f with
      | some v => some (pc + 3, ls, v :: r, H)
      | none => none
    | .retAddr j :: r, 200 :: f :: _ => if j < 19 then (if f = 0 then some (pc + 3, ls, .retAddr (100 + j) :: r, H) else if f = 1 then some (pc + 3, ls, .int 0 :: r, H) else none) else none
    | _, _ => none
  | .putfield _ => match st, ops with
    | v :: .ref a :: r, ci :: f :: _ => match gfl H a ci f with
      | some _ => if fok (fty ci f) v = true then some (pc + 3, ls, r, hpf H a f v) else none
      | none => none
    | _, _ => none
  | .getstatic _ => match ops with
    | [0, v, _] => some (pc + 3, ls, .int (Int32.ofNat v) :: st, H)
    | [1, j, _] => some (pc + 3, ls, .retAddr j :: st, H)
    | _ => none
  | .iaload => match st with
    | .int j :: .ref a :: r => match garr H a with
      | some xs => if inb j xs.length = true then some (pc + 1, ls, .int (xs.getD j.toNatClampNeg 0) :: r, H) else none
      | none => none
    | .int j :: .retAddr 1000 :: r => if k = 0 ∧ inb j scr.length = true then some (pc + 1, ls, .int (scr.getD j.toNatClampNeg 0) :: r, H) else none
    | _ => none
  | .iastore => match st with
    | .int x :: .int j :: .ref a :: r => match garr H a with
      | some xs => if inb j xs.length = true then some (pc + 1, ls, r, hpa H a (xs.set j.toNatClampNeg x)) else none
      | none => none
    | _ => none
  | .laload => match st with
    | .int j :: .ref a :: r => match garl H a with
      | some xs => if inb j xs.length = true then some (pc + 1, ls, .long (xs.getD j.toNatClampNeg 0) :: r, H) else none
      | none => none
    | _ => none
  | .baload => match st with
    | .int j :: .retAddr b :: r => if 100 ≤ b ∧ b < 119 ∧ inb j (bytS.getD (b - 100) []).length = true then some (pc + 1, ls, .int ((bytS.getD (b - 100) []).getD j.toNatClampNeg 0) :: r, H) else none
    | _ => none
  | .arraylength => match st with
    | .ref a :: r => match garr H a with
      | some xs => some (pc + 1, ls, .int (Int32.ofNat xs.length) :: r, H)
      | none => none
    | .retAddr b :: r => if k = 0 ∧ b = 1000 then some (pc + 1, ls, .int (Int32.ofNat scr.length) :: r, H) else if 100 ≤ b ∧ b < 119 then some (pc + 1, ls, .int (Int32.ofNat (bytS.getD (b - 100) []).length) :: r, H) else none
    | _ => none
  | .newarray ty => match st with
    | .int n :: r => if n < 0 ∨ 100000 < n.toNatClampNeg ∨ (lok H.length ls && sok H.length r && hok H.length H) = false then none else match ty with
      | .int => some (pc + 2, ls, .ref H.length :: r, H ++ [.inr (.inl (List.replicate n.toNatClampNeg 0))])
      | .long => some (pc + 2, ls, .ref H.length :: r, H ++ [.inr (.inr (List.replicate n.toNatClampNeg 0))])
      | _ => none
    | _ => none
  | .new _ => match ops with
    | [ci, _] => if ci < 13 ∧ (lok H.length ls && sok H.length st && hok H.length H) = true then some (pc + 3, ls, .ref H.length :: st, H ++ [.inl (ci, fdef ci)]) else none
    | _ => none
  | .invokespecial _ => match st, ops with
    | .ref _ :: r, [5, _] => if (r.map fun v => v.category).sum ≤ 8 then some (pc + 3, ls, r, H) else none
    | _, _ => none
  | .ifCond .eq o => match st with
    | .int x :: r => if x = 0 then jto pc o ls r H else some (pc + 3, ls, r, H)
    | _ => none
  | .ifCond .ne o => match st with
    | .int x :: r => if ¬ x = 0 then jto pc o ls r H else some (pc + 3, ls, r, H)
    | _ => none
  | .ifCond .lt o => match st with
    | .int x :: r => if x < 0 then jto pc o ls r H else some (pc + 3, ls, r, H)
    | _ => none
  | .ifCond .ge o => match st with
    | .int x :: r => if 0 ≤ x then jto pc o ls r H else some (pc + 3, ls, r, H)
    | _ => none
  | .ifCond .gt o => match st with
    | .int x :: r => if 0 < x then jto pc o ls r H else some (pc + 3, ls, r, H)
    | _ => none
  | .ifCond .le o => match st with
    | .int x :: r => if x ≤ 0 then jto pc o ls r H else some (pc + 3, ls, r, H)
    | _ => none
  | .if_icmp .eq o => match st with
    | .int y :: .int x :: r => if x = y then jto pc o ls r H else some (pc + 3, ls, r, H)
    | _ => none
  | .if_icmp .ne o => match st with
    | .int y :: .int x :: r => if ¬ x = y then jto pc o ls r H else some (pc + 3, ls, r, H)
    | _ => none
  | .if_icmp .lt o => match st with
    | .int y :: .int x :: r => if x < y then jto pc o ls r H else some (pc + 3, ls, r, H)
    | _ => none
  | .if_icmp .ge o => match st with
    | .int y :: .int x :: r => if y ≤ x then jto pc o ls r H else some (pc + 3, ls, r, H)
    | _ => none
  | .if_icmp .gt o => match st with
    | .int y :: .int x :: r => if y < x then jto pc o ls r H else some (pc + 3, ls, r, H)
    | _ => none
  | .if_icmp .le o => match st with
    | .int y :: .int x :: r => if x ≤ y then jto pc o ls r H else some (pc + 3, ls, r, H)
    | _ => none
  | .goto o => jto pc o ls st H
  | .tableswitch d lo hi offs => match st with
    | .int x :: r => if x.toInt < lo ∨ hi < x.toInt then jto pc d ls r H else match offs[(x.toInt - lo).toNat]? with
      | some o => jto pc o ls r H
      | none => none
    | _ => none
  | .lookupswitch d ps => match st with
    | .int x :: r => if (ps.toList.zip (ps.toList.drop 1)).all (fun (a, next) => a.1 < next.1) = true then jto pc (Op.lookupswitch.offset ps.toList d x.toInt) ls r H else none
    | _ => none
  | _ => none

def lenOk (i : Instr) (len : Nat) : Bool := match i with
  | .tableswitch _ _ _ _ | .lookupswitch _ _ => true
  | .iload _ | .lload _ | .istore _ | .lstore _ | .bipush _ | .ldc _ | .newarray _ => len == 2
  | .sipush _ | .getfield _ | .putfield _ | .getstatic _ | .invokevirtual _ | .invokestatic _ | .invokespecial _ | .new _ | .ifCond _ _ | .if_icmp _ _ | .goto _ | .iinc _ _ | .ldc_w _ | .ldc2_w _ => len == 3
  | _ => len == 1
def opl : List (Nat × List Nat) → Nat → List Nat
  | [], _ => []
  | (p, o) :: r, pc => if p = pc then o else opl r pc
def acode (k pc : Nat) : Option (Instr × List Nat) := match PT[k]? with
  | some mi => match decode mi.2.1 pc with
    | .ok (i, len) => if lenOk i len = true then some (i, opl mi.2.2.2.2 pc) else none
    | _ => none
  | none => none
def mMax (k : Nat) : Nat := match PT[k]? with
  | some mi => mi.2.2.1
  | none => 0
def mRet (k : Nat) : Option FieldType := match PT[k]? with
  | some mi => mi.2.2.2.1
  | none => none
/-- a return (or the throw at the end of led: .null, a cell of class 13 more) -/
def rstep (k : Nat) (i : Instr) (ops : List Nat) (st : List Value) (H : List AC) : ARs := match i with
  | .ireturn => match st with
    | [.int v] => match mRet k with
      | some ty => if narrow ty (.int v) = .int v then some (some (.int v), H) else none
      | none => none
    | _ => none
  | .lreturn => match st with
    | [.long v] => if mRet k = some .long then some (some (.long v), H) else none
    | _ => none
  | .return_ => match st with
    | [] => if mRet k = none then some (none, H) else none
    | _ => none
  | .new _ => match st, ops with
    | [], [999] => if hok H.length H = true then some (some .null, H ++ [.inl (13, [])]) else none
    | _, _ => none
  | _ => none
def cinfo (i : Instr) (ops : List Nat) : Option (Nat × Nat × Nat × Nat) := match i with
  | .invokevirtual _ => match ops with
    | [1, j, na, _, _, ci, _] => some (1, j, na, ci)
    | _ => none
  | .invokestatic _ => match ops with
    | [2, j, na, _, _] => some (2, j, na, 0)
    | [3, j, na, _, _] => some (3, j, na, 0)
    | _ => none
  | .invokespecial _ => match ops with
    | [0, j, na, _, _] => some (0, j, na, 0)
    | _ => none
  | _ => none
def ent (nL : Nat) (vs : List Value) : ALs := match vs with
  | [] => List.replicate nL none
  | v :: r => if v.category = 2 then some v :: none :: ent (nL - 2) r else some v :: ent (nL - 1) r
def rcv (H : List AC) (v : Option Value) (ci : Nat) : Bool := match v with
  | some (.ref b) => match H[b]? with
    | some (.inl (c, _)) => c == ci
    | _ => false
  | some (.retAddr j) => ci == 200 && decide (j < 19)
  | _ => false
def isrf (v : Option Value) : Bool := match v with
  | some (.ref _) => true
  | _ => false
def csum (st : List Value) : Nat := (st.map fun v => v.category).sum
def cok (kind na ci mx : Nat) (ls : ALs) (st : List Value) (H : List AC) : Bool := decide (na ≤ st.length) && decide (csum (st.drop na) ≤ 8) && decide ((ent mx (st.take na).reverse).length = mx) && match kind with
  | 0 => isrf st[na - 1]? && decide (0 < na) && lok H.length ls && sok H.length st
  | 1 => decide (0 < na) && rcv H st[na - 1]? ci
  | 2 => true
  | _ => false
def rok (r : Option Value) : Bool := match r with
  | none => true
  | some (.int _) => true
  | some (.long _) => true
  | _ => false
/-- the machine, with n steps and d frames at most -/
def run (scr : List Int32) : Nat → Nat → Nat → Nat → ALs → List Value → List AC → ARs
  | 0, _, _, _, _, _, _ => none
  | n + 1, d, k, pc, ls, st, H => match acode k pc with
    | none => none
    | some (i, ops) => match rstep k i ops st H with
      | some r => some r
      | none => match cinfo i ops with
        | some (kind, j, na, ci) => match d with
          | 0 => none
          | d' + 1 =>
            if kind = 3 then match st with
              | .ref o :: .int p0 :: .ref x :: rest => if csum rest ≤ 8 ∧ lok H.length ls = true ∧ sok H.length st = true then match d' with
                | 0 => none
                | d'' + 1 => match run scr n d'' 180 0 (ent (mMax 180) [.ref x, .int p0]) [] H with
                  | some (some .null, H') => run scr n (d' + 1) k (pc + 3) ls (.int 1 :: rest) H'
                  | some (some (.int v), H') => match garl H' o with
                    | some [_] => run scr n (d' + 1) k (pc + 3) ls (.int 0 :: rest) (hpl H' o [v.toInt64])
                    | _ => none
                  | _ => none
                else none
              | _ => none
            else if cok kind na ci (mMax j) ls st H = true then match run scr n d' j 0 (ent (mMax j) (st.take na).reverse) [] H with
              | some (r, H') => if rok r = true ∧ (kind = 0 ∨ H'.length = H.length) then run scr n (d' + 1) k (pc + 3) ls (r.toList ++ st.drop na) H' else none
              | none => none
            else none
        | none => match bstep scr k pc i ops ls st H with
          | some (pc', ls', st', H') => run scr n d k pc' ls' st' H'
          | none => none
