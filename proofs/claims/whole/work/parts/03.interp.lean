/-! an interpreter of the bytecode over cells that are numbered; ints are integers -/
abbrev AV : Type := Int ⊕ Int64 ⊕ Nat ⊕ Nat
abbrev iv (z : Int) : AV := .inl z
abbrev jv (z : Int64) : AV := .inr (.inl z)
abbrev rv (k : Nat) : AV := .inr (.inr (.inl k))
abbrev sv (k : Nat) : AV := .inr (.inr (.inr k))
abbrev AC : Type := (Int → Int) ⊕ (Int → Int64) ⊕ (Int → Option Nat)
abbrev AE : Type := (Nat × Nat × AC) ⊕ (Nat × List AV)
abbrev AM : Type := List AE
abbrev AL : Type := List (Option AV)
abbrev AX : Type := Nat × (Nat → Int32)
abbrev AF : Type := Nat × AL × List AV × AM × Nat × Nat
def cat (v : AV) : Nat := match v with
  | .inr (.inl _) => 2
  | _ => 1
def ldI (L : AL) (i : Nat) : Option AV := match L[i]? with
  | some (some (.inl z)) => some (iv z)
  | _ => none
def ldJ (L : AL) (i : Nat) : Option AV := match L[i]? with
  | some (some (.inr (.inl z))) => some (jv z)
  | _ => none
def ldR (L : AL) (i : Nat) : Option AV := match L[i]? with
  | some (some (.inr (.inr (.inl k)))) => some (rv k)
  | some (some (.inr (.inr (.inr (k + 1))))) => some (sv (k + 1))
  | _ => none
def clr (L : AL) (i : Nat) : AL := match i with
  | 0 => L
  | j + 1 => match L[j]? with
    | some (some (.inr (.inl _))) => L.set j none
    | _ => L
def st1 (L : AL) (i : Nat) (v : AV) : AL := (clr L i).set i (some v)
def st2 (L : AL) (i : Nat) (v : AV) : AL := ((clr L i).set i (some v)).set (i + 1) none
def jmp (pc : Nat) (off : Int) : Option Nat := if 0 ≤ (pc : Int) + off then some ((pc : Int) + off).toNat else none
def tst (o : Jvm.ClassFile.Cond) (x y : Int) : Bool := match o with
  | .eq => decide (Int32.ofInt x = Int32.ofInt y)
  | .ne => decide (¬ Int32.ofInt x = Int32.ofInt y)
  | .lt => decide (Int32.ofInt x < Int32.ofInt y)
  | .ge => decide (Int32.ofInt y ≤ Int32.ofInt x)
  | .gt => decide (Int32.ofInt y < Int32.ofInt x)
  | .le => decide (Int32.ofInt x ≤ Int32.ofInt y)
def swt (lo hi dflt : Int) (offs : Array Int) (x : Int) : Option Int := if (Int32.ofInt x).toInt < lo ∨ hi < (Int32.ofInt x).toInt then some dflt else offs[((Int32.ofInt x).toInt - lo).toNat]?
def okv (ty : FieldType) (v : AV) : Bool := match ty, v with
  | .int, .inl _ => true
  | .boolean, .inl z => z == 0 || z == 1
  | .long, .inr (.inl _) => true
  | .object _, .inr (.inr (.inl _)) => true
  | .array _, .inr (.inr (.inl _)) => true
  | _, _ => false
def finT (ci j : Nat) : Bool := match clsT[ci]? with
  | some (_, T, _) => (T j).2.2.2
  | none => true
def decT (ci j : Nat) : String := match clsT[ci]? with
  | some (_, T, _) => (T j).1
  | none => ""
def fszT (ci : Nat) : Nat := match clsT[ci]? with
  | some (_, _, N) => N
  | none => 0
def dflV (ty : FieldType) : AV := match ty with
  | .int => iv 0
  | .boolean => iv 0
  | .long => jv 0
  | _ => sv 0
def dfl (ci : Nat) : List AV := (List.range (fszT ci)).map (fun j => dflV (tyT ci j))
def inA (i : Int) (n : Nat) : Bool := decide (0 ≤ i ∧ i < n ∧ n < 2147483648)
def rootL : List Int := [0, 1000000, 1414213, 1732050, 2000000, 2236067, 2449489, 2645751, 2828427, 3000000, 3162277, 3316624, 3464101]
def rootZ (i : Int) : Int := rootL.getD i.toNat 0
def updA {α : Type} (f : Int → α) (i : Int) (x : α) : Int → α := fun j => if j = i then x else f j
def cpyA (f g : Int → Int) (sp dp n : Int) : Int → Int := fun j => if dp ≤ j ∧ j < dp + n then f (sp + (j - dp)) else g j
def lenOK (ins : Instr) (len : Nat) : Bool := match ins with
  | .tableswitch .. => true
  | .lookupswitch .. => true
  | .iload _ | .lload _ | .aload _ | .istore _ | .lstore _ | .astore _ | .bipush _ | .newarray _ => len == 2
  | .sipush _ | .ldc2_w _ | .iinc _ _ | .goto _ | .ifCond _ _ | .if_icmp _ _ | .getfield _ | .putfield _ | .getstatic _ | .new _ | .anewarray _ | .invokevirtual _ | .invokestatic _ | .invokespecial _ => len == 3
  | _ => len == 1
/-- an instruction that neither calls nor returns -/
def stp (X : AX) (mr : MRec) (d : Nat) (ins : Instr) (pc : Nat) (L : AL) (S : List AV) (M : AM) (c s : Nat) : Option AF := match ins with
  | .iload_n k => (ldI L k).map (fun v => (pc + 1, L, v :: S, M, c, s))
  | .iload k => (ldI L k).map (fun v => (pc + 2, L, v :: S, M, c, s))
  | .lload_n k => (ldJ L k).map (fun v => (pc + 1, L, v :: S, M, c, s))
  | .lload k => (ldJ L k).map (fun v => (pc + 2, L, v :: S, M, c, s))
  | .aload_n k => (ldR L k).map (fun v => (pc + 1, L, v :: S, M, c, s))
  | .aload k => (ldR L k).map (fun v => (pc + 2, L, v :: S, M, c, s))
  | .istore_n k => match S with
    | .inl z :: r => if (k : Nat) < mr.2.2.1 then some (pc + 1, st1 L k (iv z), r, M, c, s) else none
    | _ => none
  | .istore k => match S with
    | .inl z :: r => if k < mr.2.2.1 then some (pc + 2, st1 L k (iv z), r, M, c, s) else none
    | _ => none
  | .lstore_n k => match S with
    | .inr (.inl z) :: r => if (k : Nat) + 1 < mr.2.2.1 then some (pc + 1, st2 L k (jv z), r, M, c, s) else none
    | _ => none
  | .lstore k => match S with
    | .inr (.inl z) :: r => if k + 1 < mr.2.2.1 then some (pc + 2, st2 L k (jv z), r, M, c, s) else none
    | _ => none
  | .astore_n k => match S with
    | .inr (.inr (.inl z)) :: r => if (k : Nat) < mr.2.2.1 then some (pc + 1, st1 L k (rv z), r, M, c, s) else none
    | _ => none
  | .astore k => match S with
    | .inr (.inr (.inl z)) :: r => if k < mr.2.2.1 then some (pc + 2, st1 L k (rv z), r, M, c, s) else none
    | _ => none
  | .iconst n => some (pc + 1, L, iv n :: S, M, c, s)
  | .bipush n => some (pc + 2, L, iv (Int8.ofInt n).toInt :: S, M, c, s)
  | .sipush n => some (pc + 3, L, iv (Int16.ofInt n).toInt :: S, M, c, s)
  | .lconst n => some (pc + 1, L, jv (Int64.ofNat n) :: S, M, c, s)
  | .ldc2_w k => (lcn mr.2.2.2.2.2.2 k).map (fun v => (pc + 3, L, jv v :: S, M, c, s))
  | .iadd => match S with
    | .inl y :: .inl x :: r => some (pc + 1, L, iv (x + y) :: r, M, c, s)
    | _ => none
  | .isub => match S with
    | .inl y :: .inl x :: r => some (pc + 1, L, iv (x - y) :: r, M, c, s)
    | _ => none
  | .imul => match S with
    | .inl y :: .inl x :: r => some (pc + 1, L, iv (x * y) :: r, M, c, s)
    | _ => none
  | .idiv => match S with
    | .inl y :: .inl x :: r => if Int32.ofInt y = 0 then none else some (pc + 1, L, iv (Int32.ofInt x / Int32.ofInt y).toInt :: r, M, c, s)
    | _ => none
  | .ineg => match S with
    | .inl x :: r => some (pc + 1, L, iv (-x) :: r, M, c, s)
    | _ => none
  | .iand => match S with
    | .inl y :: .inl x :: r => some (pc + 1, L, iv (Int32.ofInt x &&& Int32.ofInt y).toInt :: r, M, c, s)
    | _ => none
  | .ladd => match S with
    | .inr (.inl y) :: .inr (.inl x) :: r => some (pc + 1, L, jv (x + y) :: r, M, c, s)
    | _ => none
  | .lsub => match S with
    | .inr (.inl y) :: .inr (.inl x) :: r => some (pc + 1, L, jv (x - y) :: r, M, c, s)
    | _ => none
  | .lmul => match S with
    | .inr (.inl y) :: .inr (.inl x) :: r => some (pc + 1, L, jv (x * y) :: r, M, c, s)
    | _ => none
  | .ldiv => match S with
    | .inr (.inl y) :: .inr (.inl x) :: r => if y = 0 then none else some (pc + 1, L, jv (x / y) :: r, M, c, s)
    | _ => none
  | .lor => match S with
    | .inr (.inl y) :: .inr (.inl x) :: r => some (pc + 1, L, jv (x ||| y) :: r, M, c, s)
    | _ => none
  | .lneg => match S with
    | .inr (.inl x) :: r => some (pc + 1, L, jv (-x) :: r, M, c, s)
    | _ => none
  | .lshl => match S with
    | .inl y :: .inr (.inl x) :: r => some (pc + 1, L, jv (x <<< ((Int32.ofInt y).toInt64 &&& 63)) :: r, M, c, s)
    | _ => none
  | .lcmp => match S with
    | .inr (.inl y) :: .inr (.inl x) :: r => some (pc + 1, L, iv (lg_cmp x y).toInt :: r, M, c, s)
    | _ => none
  | .i2l => match S with
    | .inl x :: r => some (pc + 1, L, jv (Int32.ofInt x).toInt64 :: r, M, c, s)
    | _ => none
  | .l2i => match S with
    | .inr (.inl x) :: r => some (pc + 1, L, iv x.toInt32.toInt :: r, M, c, s)
    | _ => none
  | .iinc k n => match L[k]? with
    | some (some (.inl x)) => if k < mr.2.2.1 then some (pc + 3, st1 L k (iv (x + n)), S, M, c, s) else none
    | _ => none
  | .goto off => (jmp pc off).map (fun t => (t, L, S, M, c, s))
  | .ifCond o off => match S with
    | .inl x :: r => (jmp pc off).map (fun t => (if tst o x 0 then t else pc + 3, L, r, M, c, s))
    | _ => none
  | .if_icmp o off => match S with
    | .inl y :: .inl x :: r => (jmp pc off).map (fun t => (if tst o x y then t else pc + 3, L, r, M, c, s))
    | _ => none
  | .tableswitch dflt lo hi offs => match S with
    | .inl x :: r => match swt lo hi dflt offs x with
      | some off => (jmp pc off).map (fun t => (t, L, r, M, c, s))
      | none => none
    | _ => none
  | .lookupswitch dflt ps => match S with
    | .inl x :: r => if (ps.toList.zip (ps.toList.drop 1)).all (fun (a, next) => a.1 < next.1) = true then (jmp pc (Op.lookupswitch.offset ps.toList dflt (Int32.ofInt x).toInt)).map (fun t => (t, L, r, M, c, s)) else none
    | _ => none
  | .dup => match S with
    | v :: r => if cat v = 1 then some (pc + 1, L, v :: v :: r, M, c, s) else none
    | _ => none
  | .dup2 => match S with
    | v :: w :: r => if cat v = 1 ∧ cat w = 1 then some (pc + 1, L, v :: w :: v :: w :: r, M, c, s) else none
    | _ => none
  | .pop => match S with
    | v :: r => if cat v = 1 then some (pc + 1, L, r, M, c, s) else none
    | _ => none
  | .getfield k => match S with
    | .inr (.inr (.inl q)) :: r => match fld mr.2.2.2.2.2.2 k with
      | some (ci, j) => match M[q]? with
        | some (.inr (ci', fs)) => if ci' = ci then (fs[j]?).map (fun v => (pc + 3, L, v :: r, M, c, s)) else none
        | _ => none
      | none => none
    | _ => none
  | .putfield k => match S with
    | v :: .inr (.inr (.inl q)) :: r => match fld mr.2.2.2.2.2.2 k with
      | some (ci, j) => match M[q]? with
        | some (.inr (ci', fs)) => if ci' = ci ∧ j < fs.length ∧ okv (tyT ci j) v = true ∧ (finT ci j = true → mr.1.name = "<init>" ∧ decT ci j = own mr.2.2.2.2.2.2) then some (pc + 3, L, r, M.set q (.inr (ci, fs.set j v)), c, s) else none
        | _ => none
      | none => none
    | _ => none
  | .getstatic k => if mr.2.2.2.2.2.2 = 9 ∧ k = 41 then some (pc + 3, L, sv 1 :: S, M, c, s) else none
  | .iaload => match S with
    | .inl i :: .inr (.inr (.inl q)) :: r => match M[q]? with
      | some (.inl (0, n, .inl f)) => if inA i n then some (pc + 1, L, iv (f i) :: r, M, c, s) else none
      | _ => none
    | .inl i :: .inr (.inr (.inr 1)) :: r => if inA i 13 then some (pc + 1, L, iv (rootZ i) :: r, M, c, s) else none
    | .inl i :: .inr (.inr (.inr 2)) :: r => if inA i X.1 then some (pc + 1, L, iv (X.2 i.toNat).toInt :: r, M, c, s) else none
    | _ => none
  | .laload => match S with
    | .inl i :: .inr (.inr (.inl q)) :: r => match M[q]? with
      | some (.inl (1, n, .inr (.inl f))) => if inA i n then some (pc + 1, L, jv (f i) :: r, M, c, s) else none
      | _ => none
    | _ => none
  | .baload => match S with
    | .inl i :: .inr (.inr (.inl q)) :: r => match M[q]? with
      | some (.inl (2, n, .inl f)) => if inA i n then some (pc + 1, L, iv (f i) :: r, M, c, s) else none
      | _ => none
    | _ => none
  | .aaload => match S with
    | .inl i :: .inr (.inr (.inl q)) :: r => match M[q]? with
      | some (.inl (t, n, .inr (.inr f))) => if inA i n ∧ (t = 3 ∨ t = 4) then (f i).map (fun k => (pc + 1, L, rv k :: r, M, c, s)) else none
      | _ => none
    | _ => none
  | .iastore => match S with
    | .inl x :: .inl i :: .inr (.inr (.inl q)) :: r => match M[q]? with
      | some (.inl (0, n, .inl f)) => if inA i n then some (pc + 1, L, r, M.set q (.inl (0, n, .inl (updA f i x))), c, s) else none
      | _ => none
    | _ => none
  | .lastore => match S with
    | .inr (.inl x) :: .inl i :: .inr (.inr (.inl q)) :: r => match M[q]? with
      | some (.inl (1, n, .inr (.inl f))) => if inA i n then some (pc + 1, L, r, M.set q (.inl (1, n, .inr (.inl (updA f i x)))), c, s) else none
      | _ => none
    | _ => none
  | .bastore => match S with
    | .inl x :: .inl i :: .inr (.inr (.inl q)) :: r => match M[q]? with
      | some (.inl (2, n, .inl f)) => if inA i n ∧ (x = 0 ∨ x = 1) then some (pc + 1, L, r, M.set q (.inl (2, n, .inl (updA f i x))), c, s) else none
      | _ => none
    | _ => none
  | .aastore => match S with
    | .inr (.inr (.inl v)) :: .inl i :: .inr (.inr (.inl q)) :: r => match M[q]?, M[v]? with
      | some (.inl (t, n, .inr (.inr f))), some (.inr (ci, _)) => if inA i n ∧ ((t = 3 ∧ ci = 7) ∨ (t = 4 ∧ ci = 8)) then some (pc + 1, L, r, M.set q (.inl (t, n, .inr (.inr (updA f i (some v))))), c, s) else none
      | _, _ => none
    | _ => none
  | .arraylength => match S with
    | .inr (.inr (.inr 2)) :: r => some (pc + 1, L, iv (Int32.ofNat X.1).toInt :: r, M, c, s)
    | _ => none
  | .newarray a => match S with
    | .inl n :: r => if 0 ≤ n ∧ n ≤ 100000 ∧ c + 1 ≤ mr.2.2.2.2.1 ∧ s + n.toNat ≤ mr.2.2.2.2.2.1 then match a with
      | .int => some (pc + 2, L, rv M.length :: r, M ++ [.inl (0, n.toNat, .inl (fun _ => 0))], c + 1, s + n.toNat)
      | .long => some (pc + 2, L, rv M.length :: r, M ++ [.inl (1, n.toNat, .inr (.inl (fun _ => 0)))], c + 1, s + n.toNat)
      | .boolean => some (pc + 2, L, rv M.length :: r, M ++ [.inl (2, n.toNat, .inl (fun _ => 0))], c + 1, s + n.toNat)
      | _ => none else none
    | _ => none
  | .anewarray k => match S with
    | .inl n :: r => match anc mr.2.2.2.2.2.2 k with
      | some (_, t) => if 0 ≤ n ∧ n ≤ 100000 ∧ c + 1 ≤ mr.2.2.2.2.1 ∧ s + n.toNat ≤ mr.2.2.2.2.2.1 then some (pc + 3, L, rv M.length :: r, M ++ [.inl (t, n.toNat, .inr (.inr (fun _ => none)))], c + 1, s + n.toNat) else none
      | none => none
    | _ => none
  | .new k => match nwc mr.2.2.2.2.2.2 k with
    | some ci => if c + 1 ≤ mr.2.2.2.2.1 ∧ s + fszT ci ≤ mr.2.2.2.2.2.1 then some (pc + 3, L, rv M.length :: S, M ++ [.inr (ci, dfl ci)], c + 1, s + fszT ci) else none
    | none => none
  | .invokespecial k => match S with
    | .inr (.inr (.inl _)) :: r => match sp mr.2.2.2.2.2.2 k with
      | some (5, _) => if 1 ≤ d ∧ (r.map cat).sum ≤ 8 then some (pc + 3, L, r, M, c, s) else none
      | _ => none
    | _ => none
  | .invokestatic k => match sp mr.2.2.2.2.2.2 k with
    | some (8, _) => match S with
      | .inl y :: .inl x :: r => if 1 ≤ d ∧ (r.map cat).sum ≤ 8 ∧ c ≤ mr.2.2.2.2.1 ∧ s ≤ mr.2.2.2.2.2.1 then some (pc + 3, L, iv (if Int32.ofInt x < Int32.ofInt y then y else x) :: r, M, c, s) else none
      | _ => none
    | some (9, _) => match S with
      | .inl y :: .inl x :: r => if 1 ≤ d ∧ (r.map cat).sum ≤ 8 ∧ c ≤ mr.2.2.2.2.1 ∧ s ≤ mr.2.2.2.2.2.1 then some (pc + 3, L, iv (if Int32.ofInt y < Int32.ofInt x then y else x) :: r, M, c, s) else none
      | _ => none
    | some (10, _) => match S with
      | .inr (.inl y) :: .inr (.inl x) :: r => if 1 ≤ d ∧ (r.map cat).sum ≤ 8 ∧ c ≤ mr.2.2.2.2.1 ∧ s ≤ mr.2.2.2.2.2.1 then some (pc + 3, L, jv (if y < x then x else y) :: r, M, c, s) else none
      | _ => none
    | some (11, _) => match S with
      | .inr (.inl y) :: .inr (.inl x) :: r => if 1 ≤ d ∧ (r.map cat).sum ≤ 8 ∧ c ≤ mr.2.2.2.2.1 ∧ s ≤ mr.2.2.2.2.2.1 then some (pc + 3, L, jv (if y < x then y else x) :: r, M, c, s) else none
      | _ => none
    | some (7, _) => match S with
      | .inl n :: .inl dp :: .inr (.inr (.inl q)) :: .inl sp0 :: .inr (.inr (.inl q0)) :: r => match M[q0]?, M[q]? with
        | some (.inl (0, n0, .inl f)), some (.inl (0, n1, .inl g)) => if 0 ≤ n ∧ 0 ≤ dp ∧ 0 ≤ sp0 ∧ sp0 + n ≤ n0 ∧ dp + n ≤ n1 ∧ n0 < 2147483648 ∧ n1 < 2147483648 ∧ 1 ≤ d ∧ (r.map cat).sum ≤ 8 then some (pc + 3, L, r, M.set q (.inl (0, n1, .inl (cpyA f g sp0 dp n))), c, s) else none
        | _, _ => none
      | _ => none
    | _ => none
  | _ => none
def argL (vs : List AV) (n : Nat) : AL := let l := vs.flatMap (fun v => if cat v = 2 then [some v, none] else [some v]); l ++ List.replicate (n - l.length) none
/-- a call: its link, the arguments (with the receiver), what is left on the stack -/
def cal (mr : MRec) (ins : Instr) (S : List AV) (M : AM) : Option (MRec × List AV × List AV) := match ins with
  | .invokevirtual k => match ml mr.2.2.2.2.2.2 k with
    | some (_, _, 0, na, mr', _) => match S.drop na with
      | .inr (.inr (.inl q)) :: r => match M[q]? with
        | some (.inr (ci, _)) => if ci = mr'.2.2.2.2.2.2 ∧ (S.take na).length = na ∧ (r.map cat).sum ≤ 8 then some (mr', rv q :: (S.take na).reverse, r) else none
        | _ => none
      | _ => none
    | _ => none
  | .invokestatic k => match ml mr.2.2.2.2.2.2 k with
    | some (_, _, 2, na, mr', _) => if (S.take na).length = na ∧ ((S.drop na).map cat).sum ≤ 8 then some (mr', (S.take na).reverse, S.drop na) else none
    | _ => none
  | .invokespecial k => match ml mr.2.2.2.2.2.2 k with
    | some (_, _, kind, na, mr', _) => if kind = 3 ∨ kind = 4 then match S.drop na with
      | .inr (.inr (.inl q)) :: r => if (S.take na).length = na ∧ (r.map cat).sum ≤ 8 then some (mr', rv q :: (S.take na).reverse, r) else none
      | _ => none else none
    | _ => none
  | _ => none
def rtn (mr : MRec) (ins : Instr) (S : List AV) : Option (Option AV) := match ins, mr.2.2.2.1 with
  | .ireturn, some .int => match S with
    | [.inl z] => some (some (iv z))
    | _ => none
  | .ireturn, some .boolean => match S with
    | [.inl z] => if z = 0 ∨ z = 1 then some (some (iv z)) else none
    | _ => none
  | .lreturn, some .long => match S with
    | [.inr (.inl z)] => some (some (jv z))
    | _ => none
  | .return_, none => match S with
    | [] => some none
    | _ => none
  | _, _ => none
def run (X : AX) : Nat → Nat → MRec → Nat → AL → List AV → AM → Nat → Nat → Option (Option AV × AM)
  | 0, _, _, _, _, _, _, _, _ => none
  | n + 1, d, mr, pc, L, S, M, c, s => match decode mr.2.1 pc with
    | .ok (ins, len) => if lenOK ins len then match rtn mr ins S with
      | some v => if c = mr.2.2.2.2.1 ∧ s ≤ mr.2.2.2.2.2.1 then some (v, M) else none
      | none => match stp X mr d ins pc L S M c s with
        | some (pc', L', S', M', c', s') => run X n d mr pc' L' S' M' c' s'
        | none => match cal mr ins S M with
          | some (mr', As, r) => match d with
            | 0 => none
            | d' + 1 => if (argL As mr'.2.2.1).length = mr'.2.2.1 ∧ c + mr'.2.2.2.2.1 ≤ mr.2.2.2.2.1 ∧ s + mr'.2.2.2.2.2.1 ≤ mr.2.2.2.2.2.1 then match run X n d' mr' 0 (argL As mr'.2.2.1) [] M 0 0 with
              | some (v, M') => run X n (d' + 1) mr (pc + 3) L (v.toList ++ r) M' (c + mr'.2.2.2.2.1) (s + mr'.2.2.2.2.2.1)
              | none => none else none
          | none => none
      else none
    | .error _ => none
