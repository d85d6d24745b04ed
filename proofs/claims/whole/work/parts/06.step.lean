/-! Straight stretches: what instructions without a fork do, by computation; and that the machine does so. -/
abbrev SI : Type := Instr × Nat × Nat × Nat × Value
abbrev SS : Type := Nat × List (Option Value) × List Value × GG
def shg : List Shp → Nat → Option Shp
  | [], _ => none
  | x :: _, 0 => some x
  | _ :: t, n + 1 => shg t n
theorem shg_eq : ∀ (l : List Shp) (k : Nat), shg l k = l[k]?
  | [], k => by simp [shg]
  | x :: t, 0 => rfl
  | x :: t, n + 1 => by rw [List.getElem?_cons_succ]; exact shg_eq t n
def isObj (sh : List Shp) (k a : Nat) : Bool := match shg sh k with
  | some (.inl c) => c == a
  | _ => false
def arrLen (sh : List Shp) (k : Nat) : Option Nat := match shg sh k with
  | some (.inr (.int, n)) => some n
  | _ => none
def putOk (ty : FieldType) (v : Value) : Bool := match ty, v with
  | .int, .int _ => true
  | .boolean, .int x => x == 0 || x == 1
  | _, _ => false
def sstep (sh : List Shp) (i : SI) (s : SS) : Option SS := match i.1 with
  | .iconst _ => some (s.1 + 1, s.2.1, i.2.2.2.2 :: s.2.2.1, s.2.2.2)
  | .bipush _ => some (s.1 + 2, s.2.1, i.2.2.2.2 :: s.2.2.1, s.2.2.2)
  | .sipush _ => some (s.1 + 3, s.2.1, i.2.2.2.2 :: s.2.2.1, s.2.2.2)
  | .ldc _ => some (s.1 + 2, s.2.1, i.2.2.2.2 :: s.2.2.1, s.2.2.2)
  | .ldc_w _ => some (s.1 + 3, s.2.1, i.2.2.2.2 :: s.2.2.1, s.2.2.2)
  | .ldc2_w _ => some (s.1 + 3, s.2.1, i.2.2.2.2 :: s.2.2.1, s.2.2.2)
  | .getstatic _ => some (s.1 + 3, s.2.1, .ref i.2.2.1 :: s.2.2.1, s.2.2.2)
  | .iload _ => match lget s.2.1 i.2.2.1 with
    | some (.int x) => some (s.1 + 2, s.2.1, .int x :: s.2.2.1, s.2.2.2)
    | _ => none
  | .iload_n _ => match lget s.2.1 i.2.2.1 with
    | some (.int x) => some (s.1 + 1, s.2.1, .int x :: s.2.2.1, s.2.2.2)
    | _ => none
  | .aload _ => match lget s.2.1 i.2.2.1 with
    | some (.ref x) => some (s.1 + 2, s.2.1, .ref x :: s.2.2.1, s.2.2.2)
    | _ => none
  | .aload_n _ => match lget s.2.1 i.2.2.1 with
    | some (.ref x) => some (s.1 + 1, s.2.1, .ref x :: s.2.2.1, s.2.2.2)
    | _ => none
  | .lload _ => match lget s.2.1 i.2.2.1 with
    | some (.long x) => some (s.1 + 2, s.2.1, .long x :: s.2.2.1, s.2.2.2)
    | _ => none
  | .lload_n _ => match lget s.2.1 i.2.2.1 with
    | some (.long x) => some (s.1 + 1, s.2.1, .long x :: s.2.2.1, s.2.2.2)
    | _ => none
  | .istore _ => match s.2.2.1 with
    | .int x :: r => some (s.1 + 2, set1 s.2.1 i.2.2.1 (.int x), r, s.2.2.2)
    | _ => none
  | .istore_n _ => match s.2.2.1 with
    | .int x :: r => some (s.1 + 1, set1 s.2.1 i.2.2.1 (.int x), r, s.2.2.2)
    | _ => none
  | .astore _ => match s.2.2.1 with
    | .ref x :: r => some (s.1 + 2, set1 s.2.1 i.2.2.1 (.ref x), r, s.2.2.2)
    | _ => none
  | .astore_n _ => match s.2.2.1 with
    | .ref x :: r => some (s.1 + 1, set1 s.2.1 i.2.2.1 (.ref x), r, s.2.2.2)
    | _ => none
  | .lstore _ => match s.2.2.1 with
    | .long x :: r => some (s.1 + 2, set2 s.2.1 i.2.2.1 (.long x), r, s.2.2.2)
    | _ => none
  | .lstore_n _ => match s.2.2.1 with
    | .long x :: r => some (s.1 + 1, set2 s.2.1 i.2.2.1 (.long x), r, s.2.2.2)
    | _ => none
  | .iinc _ _ => match lget s.2.1 i.2.2.1, i.2.2.2.2 with
    | some (.int x), .int n => some (s.1 + 3, set1 s.2.1 i.2.2.1 (.int (x + n)), s.2.2.1, s.2.2.2)
    | _, _ => none
  | .iadd => match s.2.2.1 with
    | .int y :: .int x :: r => some (s.1 + 1, s.2.1, .int (x + y) :: r, s.2.2.2)
    | _ => none
  | .isub => match s.2.2.1 with
    | .int y :: .int x :: r => some (s.1 + 1, s.2.1, .int (x - y) :: r, s.2.2.2)
    | _ => none
  | .imul => match s.2.2.1 with
    | .int y :: .int x :: r => some (s.1 + 1, s.2.1, .int (x * y) :: r, s.2.2.2)
    | _ => none
  | .iand => match s.2.2.1 with
    | .int y :: .int x :: r => some (s.1 + 1, s.2.1, .int (x &&& y) :: r, s.2.2.2)
    | _ => none
  | .ior => match s.2.2.1 with
    | .int y :: .int x :: r => some (s.1 + 1, s.2.1, .int (x ||| y) :: r, s.2.2.2)
    | _ => none
  | .ixor => match s.2.2.1 with
    | .int y :: .int x :: r => some (s.1 + 1, s.2.1, .int (x ^^^ y) :: r, s.2.2.2)
    | _ => none
  | .ishl => match s.2.2.1 with
    | .int y :: .int x :: r => some (s.1 + 1, s.2.1, .int (x <<< (y &&& 31)) :: r, s.2.2.2)
    | _ => none
  | .ishr => match s.2.2.1 with
    | .int y :: .int x :: r => some (s.1 + 1, s.2.1, .int (x >>> (y &&& 31)) :: r, s.2.2.2)
    | _ => none
  | .ladd => match s.2.2.1 with
    | .long y :: .long x :: r => some (s.1 + 1, s.2.1, .long (x + y) :: r, s.2.2.2)
    | _ => none
  | .lmul => match s.2.2.1 with
    | .long y :: .long x :: r => some (s.1 + 1, s.2.1, .long (x * y) :: r, s.2.2.2)
    | _ => none
  | .lcmp => match s.2.2.1 with
    | .long y :: .long x :: r => some (s.1 + 1, s.2.1, .int (lg_cmp x y) :: r, s.2.2.2)
    | _ => none
  | .i2l => match s.2.2.1 with
    | .int x :: r => some (s.1 + 1, s.2.1, .long x.toInt64 :: r, s.2.2.2)
    | _ => none
  | .i2b => match s.2.2.1 with
    | .int x :: r => some (s.1 + 1, s.2.1, .int x.toInt8.toInt32 :: r, s.2.2.2)
    | _ => none
  | .i2s => match s.2.2.1 with
    | .int x :: r => some (s.1 + 1, s.2.1, .int x.toInt16.toInt32 :: r, s.2.2.2)
    | _ => none
  | .dup => match s.2.2.1 with
    | v :: r => if v.category = 1 then some (s.1 + 1, s.2.1, v :: v :: r, s.2.2.2) else none
    | _ => none
  | .dup2 => match s.2.2.1 with
    | v :: w :: r => if v.category = 1 then (if w.category = 1 then some (s.1 + 1, s.2.1, v :: w :: v :: w :: r, s.2.2.2) else none) else none
    | _ => none
  | .goto _ => some (i.2.2.1, s.2.1, s.2.2.1, s.2.2.2)
  | .getfield _ => match s.2.2.1 with
    | .ref k :: r => bif isObj sh k i.2.2.1 then some (s.1 + 3, s.2.1, s.2.2.2 k i.2.2.2.1 :: r, s.2.2.2) else none
    | _ => none
  | .putfield _ => match s.2.2.1 with
    | v :: .ref k :: r => bif isObj sh k i.2.2.1 && putOk (ftyp i.2.2.1 i.2.2.2.1) v then some (s.1 + 3, s.2.1, r, up2 s.2.2.2 k i.2.2.2.1 v) else none
    | _ => none
  | .arraylength => match s.2.2.1 with
    | .ref k :: r => match arrLen sh k with
      | some n => some (s.1 + 1, s.2.1, .int (Int32.ofNat n) :: r, s.2.2.2)
      | none => none
    | _ => none
  | _ => none
def srun (sh : List Shp) : List SI → SS → Option SS
  | [], s => some s
  | i :: t, s => match sstep sh i s with
    | some s' => srun sh t s'
    | none => none
/-- an instruction, and what is written beside it -/
def auxOk (oc nL pc : Nat) (i : SI) : Bool := match i.1 with
  | .iconst n => i.2.2.2.2 == .int (Int32.ofInt n) && i.2.1 == 1
  | .bipush n => i.2.2.2.2 == .int (Int8.ofInt n).toInt32 && i.2.1 == 2
  | .sipush n => i.2.2.2.2 == .int (Int16.ofInt n).toInt32 && i.2.1 == 3
  | .ldc k => CI.contains (oc, k, i.2.2.2.2) && i.2.1 == 2 && (match i.2.2.2.2 with | .int _ => true | _ => false)
  | .ldc_w k => CI.contains (oc, k, i.2.2.2.2) && i.2.1 == 3 && (match i.2.2.2.2 with | .int _ => true | _ => false)
  | .ldc2_w k => CI.contains (oc, k, i.2.2.2.2) && i.2.1 == 3 && (match i.2.2.2.2 with | .long _ => true | _ => false)
  | .getstatic k => SK.contains (oc, k, i.2.2.1) && i.2.1 == 3
  | .iload k => k == i.2.2.1 && i.2.1 == 2
  | .iload_n k => k.val == i.2.2.1 && i.2.1 == 1
  | .aload k => k == i.2.2.1 && i.2.1 == 2
  | .aload_n k => k.val == i.2.2.1 && i.2.1 == 1
  | .lload k => k == i.2.2.1 && i.2.1 == 2
  | .lload_n k => k.val == i.2.2.1 && i.2.1 == 1
  | .istore k => k == i.2.2.1 && i.2.1 == 2 && decide (k < nL)
  | .istore_n k => k.val == i.2.2.1 && i.2.1 == 1 && decide (k.val < nL)
  | .astore k => k == i.2.2.1 && i.2.1 == 2 && decide (k < nL)
  | .astore_n k => k.val == i.2.2.1 && i.2.1 == 1 && decide (k.val < nL)
  | .lstore k => k == i.2.2.1 && i.2.1 == 2 && decide (k + 1 < nL)
  | .lstore_n k => k.val == i.2.2.1 && i.2.1 == 1 && decide (k.val + 1 < nL)
  | .iinc k n => k == i.2.2.1 && i.2.2.2.2 == .int (Int32.ofInt n) && i.2.1 == 3 && decide (k < nL)
  | .goto off => (pc : Int) + off == (i.2.2.1 : Int) && i.2.1 == 3
  | .getfield k => FL.contains (oc, k, i.2.2.1, i.2.2.2.1) && i.2.1 == 3
  | .putfield k => FL.contains (oc, k, i.2.2.1, i.2.2.2.1) && i.2.1 == 3 && (match vwCl[i.2.2.1]? with | some r => (r.2.1 i.2.2.2.1).2.2.2 == false | none => false)
  | _ => i.2.1 == 1
def decIs (code : ByteArray) (pc : Nat) (i : Instr) (n : Nat) : Bool := decide (decode code pc = .ok (i, n))
def blk (oc nL : Nat) (code : ByteArray) : Nat → List SI → Bool
  | _, [] => true
  | pc, i :: t => decIs code pc i.1 i.2.1 && auxOk oc nL pc i && blk oc nL code (match i.1 with | .goto _ => i.2.2.1 | _ => pc + i.2.1) t
theorem mem_of_contains {α : Type} [BEq α] [LawfulBEq α] {l : List α} {a : α} (h : l.contains a = true) : a ∈ l := by simpa using h
