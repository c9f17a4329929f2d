/-! ===== THE ABSTRACT MACHINE: the bytecode of the system run over a list of cells; a reference is a place in that list ===== -/
/-- a cell: ints, longs, references (a kind of array, its places), an object (a class's number, its fields) -/
abbrev am_Ob : Type := List Int32 ⊕ (List Int64 ⊕ ((Nat × List Value) ⊕ (Nat × List Value)))
abbrev am_Mem : Type := List am_Ob
abbrev am_Lc : Type := List (Option Value)
/-- what an instruction's entry of the pool says: a number, and a table from classes -/
abbrev am_Dt : Type := Nat × List (Nat × Nat)
abbrev am_Ins : Type := Nat × (Instr × Nat × am_Dt)
abbrev am_V : Type := Option Value × am_Mem
abbrev am_R : Type := Option ((Nat × am_Lc × List Value × am_Mem) ⊕ ((Option Value) ⊕ (Nat × List Value × Nat × List Value)))
def am_nx (pc : Nat) (ls : am_Lc) (st : List Value) (M : am_Mem) : am_R := some (.inl (pc, ls, st, M))
def am_to (pc : Nat) (off : Int) : Nat := ((pc : Int) + off).toNat
def am_kl : Option Value → Option Value
  | some (.long _) => none
  | some (.double _) => none
  | v => v
def am_set1 : am_Lc → Nat → Value → am_Lc
  | [], _, _ => []
  | _ :: l, 0, v => some v :: l
  | a :: l, 1, v => am_kl a :: am_set1 l 0 v
  | a :: l, k + 2, v => a :: am_set1 l (k + 1) v
def am_set2 : am_Lc → Nat → Value → am_Lc
  | [], _, _ => []
  | [a], _, _ => [a]
  | _ :: _ :: l, 0, v => some v :: none :: l
  | a :: l, 1, v => am_kl a :: am_set2 l 0 v
  | a :: l, k + 2, v => a :: am_set2 l (k + 1) v
def am_ldI (nx k : Nat) (ls : am_Lc) (st : List Value) (M : am_Mem) : am_R := match ls[k]? with
  | some (some (.int x)) => am_nx nx ls (.int x :: st) M
  | _ => none
def am_ldL (nx k : Nat) (ls : am_Lc) (st : List Value) (M : am_Mem) : am_R := match ls[k]? with
  | some (some (.long x)) => am_nx nx ls (.long x :: st) M
  | _ => none
def am_isR : Value → Bool
  | .ref _ => true
  | .null => true
  | .retAddr _ => true
  | _ => false
def am_ldA (nx k : Nat) (ls : am_Lc) (st : List Value) (M : am_Mem) : am_R := match ls[k]? with
  | some (some v) => if am_isR v = true then am_nx nx ls (v :: st) M else none
  | _ => none
def am_stI (nx k : Nat) (ls : am_Lc) (st : List Value) (M : am_Mem) : am_R := match st with
  | .int x :: r => if k < ls.length then am_nx nx (am_set1 ls k (.int x)) r M else none
  | _ => none
def am_stA (nx k : Nat) (ls : am_Lc) (st : List Value) (M : am_Mem) : am_R := match st with
  | v :: r => if am_isR v = true ∧ k < ls.length then am_nx nx (am_set1 ls k v) r M else none
  | _ => none
def am_stL (nx k : Nat) (ls : am_Lc) (st : List Value) (M : am_Mem) : am_R := match st with
  | .long x :: r => if k + 1 < ls.length then am_nx nx (am_set2 ls k (.long x)) r M else none
  | _ => none
def am_i1 (nx : Nat) (ls : am_Lc) (st : List Value) (M : am_Mem) (f : Int32 → Value) : am_R := match st with
  | .int x :: r => am_nx nx ls (f x :: r) M
  | _ => none
def am_i2 (nx : Nat) (ls : am_Lc) (st : List Value) (M : am_Mem) (f : Int32 → Int32 → Int32) : am_R := match st with
  | .int y :: .int x :: r => am_nx nx ls (.int (f x y) :: r) M
  | _ => none
def am_d2 (nx : Nat) (ls : am_Lc) (st : List Value) (M : am_Mem) (f : Int32 → Int32 → Int32) : am_R := match st with
  | .int y :: .int x :: r => if y = 0 then none else am_nx nx ls (.int (f x y) :: r) M
  | _ => none
def am_l2 (nx : Nat) (ls : am_Lc) (st : List Value) (M : am_Mem) (f : Int64 → Int64 → Value) : am_R := match st with
  | .long y :: .long x :: r => am_nx nx ls (f x y :: r) M
  | _ => none
def am_dl2 (nx : Nat) (ls : am_Lc) (st : List Value) (M : am_Mem) (f : Int64 → Int64 → Int64) : am_R := match st with
  | .long y :: .long x :: r => if y = 0 then none else am_nx nx ls (.long (f x y) :: r) M
  | _ => none
def am_cmp (c : Jvm.ClassFile.Cond) (x y : Int32) : Bool := match c with
  | .eq => decide (x = y)
  | .ne => decide (¬ x = y)
  | .lt => decide (x < y)
  | .ge => decide (y ≤ x)
  | .gt => decide (y < x)
  | .le => decide (x ≤ y)
def am_cls (M : am_Mem) (t : Nat) : Option Nat := match M[t]? with
  | some (.inr (.inr (.inr (c, _)))) => some c
  | _ => none
def am_gf (M : am_Mem) (t : Nat) (cs : List (Nat × Nat)) (k : Nat) : Option Value := match M[t]? with
  | some (.inr (.inr (.inr (c, fs)))) => if (cs.lookup c).isSome = true then fs[k]? else none
  | _ => none
def am_okT : Nat → Value → Bool
  | 0, .int _ => true
  | 1, .int x => decide (x = 0) || decide (x = 1)
  | 2, .ref _ => true
  | 2, .null => true
  | _, _ => false
def am_pf (M : am_Mem) (t : Nat) (cs : List (Nat × Nat)) (k : Nat) (v : Value) : Option am_Mem := match M[t]? with
  | some (.inr (.inr (.inr (c, fs)))) => match cs.lookup c with
    | some ty => if am_okT ty v = true ∧ k < fs.length then some (M.set t (.inr (.inr (.inr (c, fs.set k v))))) else none
    | none => none
  | _ => none
def am_ia (M : am_Mem) (a : Nat) (i : Int32) : Option Int32 := match M[a]? with
  | some (.inl xs) => if i < 0 then none else xs[i.toNatClampNeg]?
  | _ => none
def am_iset (M : am_Mem) (a : Nat) (i x : Int32) : Option am_Mem := match M[a]? with
  | some (.inl xs) => if i < 0 ∨ xs.length ≤ i.toNatClampNeg then none else some (M.set a (.inl (xs.set i.toNatClampNeg x)))
  | _ => none
def am_la (M : am_Mem) (a : Nat) (i : Int32) : Option Int64 := match M[a]? with
  | some (.inr (.inl xs)) => if i < 0 then none else xs[i.toNatClampNeg]?
  | _ => none
def am_lset (M : am_Mem) (a : Nat) (i : Int32) (x : Int64) : Option am_Mem := match M[a]? with
  | some (.inr (.inl xs)) => if i < 0 ∨ xs.length ≤ i.toNatClampNeg then none else some (M.set a (.inr (.inl (xs.set i.toNatClampNeg x))))
  | _ => none
def am_isO : Value → Bool
  | .ref _ => true
  | .null => true
  | _ => false
def am_aa (M : am_Mem) (a : Nat) (i : Int32) : Option Value := match M[a]? with
  | some (.inr (.inr (.inl (t, xs)))) => if i < 0 then none else match xs[i.toNatClampNeg]? with
    | some v => if am_isO v = true ∧ (t = 2 ∨ t = 3) then some v else none
    | none => none
  | _ => none
/-- which classes' objects an array of references takes -/
def am_takes : Nat → Nat → Bool
  | 2, 5 => true
  | 3, c => decide (1 ≤ c ∧ c ≤ 8 ∧ c ≠ 5)
  | _, _ => false
def am_aset (M : am_Mem) (a : Nat) (i : Int32) (v : Value) : Option am_Mem := match M[a]? with
  | some (.inr (.inr (.inl (t, xs)))) => if i < 0 ∨ xs.length ≤ i.toNatClampNeg then none else match v with
    | .null => if t = 2 ∨ t = 3 then some (M.set a (.inr (.inr (.inl (t, xs.set i.toNatClampNeg .null))))) else none
    | .ref r => if (am_cls M r).any (am_takes t) = true then some (M.set a (.inr (.inr (.inl (t, xs.set i.toNatClampNeg (.ref r)))))) else none
    | _ => none
  | _ => none
def am_len (M : am_Mem) (a : Nat) : Option Int32 := match M[a]? with
  | some (.inl xs) => some (Int32.ofNat xs.length)
  | some (.inr (.inl xs)) => some (Int32.ofNat xs.length)
  | some (.inr (.inr (.inl (t, xs)))) => if t = 2 ∨ t = 3 then some (Int32.ofNat xs.length) else none
  | _ => none
def am_sw (pc : Nat) (dflt lo hi : Int) (offs : Array Int) (x : Int32) : Nat :=
  if x.toInt < lo ∨ hi < x.toInt then am_to pc dflt else match offs[(x.toInt - lo).toNat]? with
    | some o => am_to pc o
    | none => 0
def am_args (n : Nat) (st : List Value) : Option (List Value × List Value) := if n ≤ st.length then some ((st.take n).reverse, st.drop n) else none
/-- the eight words, as numbers of their letters -/
def am_texts : List (List Nat) := [[112, 108, 97, 121, 101, 114], [111, 110], [116, 117, 114, 110], [98, 108, 111, 99, 107], [115, 101, 114, 118, 101], [98, 114, 101, 97, 107], [103, 111, 97, 108], [114, 97, 108, 108, 121]]
def am_cpy (f g : List Int64) (sp dp n : Nat) : List Int64 := g.take dp ++ (f.drop sp).take n ++ g.drop (dp + n)
def am_copyl (M : am_Mem) (a0 a1 : Nat) (sp dp n : Int32) : Option am_Mem := match M[a0]?, M[a1]? with
  | some (.inr (.inl f)), some (.inr (.inl g)) =>
    if sp < 0 ∨ dp < 0 ∨ n < 0 ∨ f.length < sp.toNatClampNeg + n.toNatClampNeg ∨ g.length < dp.toNatClampNeg + n.toNatClampNeg then none
    else some (M.set a1 (.inr (.inl (am_cpy f g sp.toNatClampNeg dp.toNatClampNeg n.toNatClampNeg))))
  | _, _ => none
/-- the JDK's own methods that the system calls -/
def am_nat (f nx : Nat) (ls : am_Lc) (As r : List Value) (M : am_Mem) : am_R := match f, As with
  | 1000, [.ref _] => am_nx nx ls r M
  | 1001, [.int x, .int y] => am_nx nx ls (.int (if x < y then y else x) :: r) M
  | 1002, [.int x, .int y] => am_nx nx ls (.int (if y < x then y else x) :: r) M
  | 1003, [.ref a0, .int sp, .ref a1, .int dp, .int n] => match am_copyl M a0 a1 sp dp n with
    | some M' => am_nx nx ls r M'
    | none => none
  | 1004, [.retAddr (k + 1)] => match am_texts[k]? with
    | some t => am_nx nx ls (.int (Int32.ofNat t.length) :: r) M
    | none => none
  | 1005, [.retAddr (k + 1), .int i] => match am_texts[k]? with
    | some t => if i < 0 then none else match t[i.toNatClampNeg]? with
      | some c => am_nx nx ls (.int (Int32.ofNat c) :: r) M
      | none => none
    | none => none
  | _, _ => none
def am_call (f nx : Nat) (ls : am_Lc) (As r : List Value) (M : am_Mem) : am_R :=
  if 4 < r.length then none else if 1000 ≤ f then am_nat f nx ls As r M else some (.inr (.inr (f, As, nx, r)))
/-- the fields with which an object of a class begins -/
def am_dfs : List (List Value) :=
  [[.null, .null, .null], [.int 0, .int 0], [.int 0, .int 0], [.int 0, .int 0], [.int 0, .int 0], [.null, .int 0, .int 0], [.int 0, .int 0], [.int 0, .int 0], [.int 0, .int 0], [.null, .null, .int 0, .int 0, .int 0, .int 0, .int 0, .int 0, .int 0, .int 0, .int 0, .int 0, .int 0, .int 0, .int 0], [.null, .null, .int 0, .int 0, .int 0, .int 0, .int 0], [.null, .null, .null, .null, .null, .null, .null, .null, .null, .int 0, .int 0], [.int 0, .int 0, .int 0, .int 0, .int 0, .int 0, .int 0, .int 0, .int 0, .int 0, .int 0, .int 0, .int 0, .int 0, .null, .null, .null, .null, .null, .null, .null, .null, .null, .null, .null, .null, .null, .null, .null, .int 0, .int 0, .int 0, .int 0, .int 0, .null, .null, .null, .null, .int 0, .null, .int 0, .int 0]]
def am_lc (x y : Int64) : Int32 := if y < x then 1 else if x = y then 0 else -1
def am_ex (X : List Int32) (pc : Nat) (i : Instr) (n : Nat) (d : am_Dt) (ls : am_Lc) (st : List Value) (M : am_Mem) : am_R := match i with
  | .aconst_null => am_nx (pc + n) ls (.null :: st) M
  | .iconst v => am_nx (pc + n) ls (.int (Int32.ofInt v) :: st) M
  | .bipush v => am_nx (pc + n) ls (.int (Int8.ofInt v).toInt32 :: st) M
  | .sipush v => am_nx (pc + n) ls (.int (Int16.ofInt v).toInt32 :: st) M
  | .lconst v => am_nx (pc + n) ls (.long (Int64.ofNat (v : Nat)) :: st) M
  | .ldc _ => match d.2 with
    | [] => am_nx (pc + n) ls (.int (Int32.ofNat d.1) :: st) M
    | _ => am_nx (pc + n) ls (.retAddr (d.1 + 1) :: st) M
  | .ldc_w _ => am_nx (pc + n) ls (.int (Int32.ofNat d.1) :: st) M
  | .ldc2_w _ => am_nx (pc + n) ls (.long (Int64.ofNat d.1) :: st) M
  | .iload k => am_ldI (pc + n) k ls st M
  | .iload_n k => am_ldI (pc + n) k ls st M
  | .lload k => am_ldL (pc + n) k ls st M
  | .lload_n k => am_ldL (pc + n) k ls st M
  | .aload k => am_ldA (pc + n) k ls st M
  | .aload_n k => am_ldA (pc + n) k ls st M
  | .istore k => am_stI (pc + n) k ls st M
  | .istore_n k => am_stI (pc + n) k ls st M
  | .lstore k => am_stL (pc + n) k ls st M
  | .astore k => am_stA (pc + n) k ls st M
  | .astore_n k => am_stA (pc + n) k ls st M
  | .iinc k c => match ls[k]? with
    | some (some (.int x)) => am_nx (pc + n) (am_set1 ls k (.int (x + Int32.ofInt c))) st M
    | _ => none
  | .iadd => am_i2 (pc + n) ls st M (fun x y => x + y)
  | .isub => am_i2 (pc + n) ls st M (fun x y => x - y)
  | .imul => am_i2 (pc + n) ls st M (fun x y => x * y)
  | .iand => am_i2 (pc + n) ls st M (fun x y => x &&& y)
  | .ior => am_i2 (pc + n) ls st M (fun x y => x ||| y)
  | .ixor => am_i2 (pc + n) ls st M (fun x y => x ^^^ y)
  | .ishl => am_i2 (pc + n) ls st M (fun x y => x <<< (y &&& 31))
  | .ishr => am_i2 (pc + n) ls st M (fun x y => x >>> (y &&& 31))
  | .iushr => am_i2 (pc + n) ls st M (fun x y => (x.toUInt32 >>> (y.toUInt32 &&& Int32.toUInt32 31)).toInt32)
  | .idiv => am_d2 (pc + n) ls st M (fun x y => x / y)
  | .irem => am_d2 (pc + n) ls st M (fun x y => x - x / y * y)
  | .ineg => am_i1 (pc + n) ls st M (fun x => .int (-x))
  | .i2l => am_i1 (pc + n) ls st M (fun x => .long x.toInt64)
  | .i2b => am_i1 (pc + n) ls st M (fun x => .int x.toInt8.toInt32)
  | .i2s => am_i1 (pc + n) ls st M (fun x => .int x.toInt16.toInt32)
  | .i2c => am_i1 (pc + n) ls st M (fun x => .int (x.toUInt32 % 65536).toInt32)
  | .ladd => am_l2 (pc + n) ls st M (fun x y => .long (x + y))
  | .lmul => am_l2 (pc + n) ls st M (fun x y => .long (x * y))
  | .land => am_l2 (pc + n) ls st M (fun x y => .long (x &&& y))
  | .lor => am_l2 (pc + n) ls st M (fun x y => .long (x ||| y))
  | .lcmp => am_l2 (pc + n) ls st M (fun x y => .int (am_lc x y))
  | .ldiv => am_dl2 (pc + n) ls st M (fun x y => x / y)
  | .l2i => match st with
    | .long x :: r => am_nx (pc + n) ls (.int x.toInt32 :: r) M
    | _ => none
  | .lshl => match st with
    | .int y :: .long x :: r => am_nx (pc + n) ls (.long (x <<< (y.toInt64 &&& 63)) :: r) M
    | _ => none
  | .dup => match st with
    | v :: r => if v.category = 1 then am_nx (pc + n) ls (v :: v :: r) M else none
    | _ => none
  | .pop => match st with
    | v :: r => if v.category = 1 then am_nx (pc + n) ls r M else none
    | _ => none
  | .dup_x1 => match st with
    | a :: b :: r => if a.category = 1 ∧ b.category = 1 then am_nx (pc + n) ls (a :: b :: a :: r) M else none
    | _ => none
  | .dup2 => match st with
    | a :: b :: r => if a.category = 1 ∧ b.category = 1 then am_nx (pc + n) ls (a :: b :: a :: b :: r) M else none
    | _ => none
  | .goto off => am_nx (am_to pc off) ls st M
  | .ifCond c off => match st with
    | .int x :: r => am_nx (if am_cmp c x 0 = true then am_to pc off else pc + n) ls r M
    | _ => none
  | .if_icmp c off => match st with
    | .int y :: .int x :: r => am_nx (if am_cmp c x y = true then am_to pc off else pc + n) ls r M
    | _ => none
  | .ifnull off => match st with
    | .ref _ :: r => am_nx (pc + n) ls r M
    | .null :: r => am_nx (am_to pc off) ls r M
    | _ => none
  | .ifnonnull off => match st with
    | .ref _ :: r => am_nx (am_to pc off) ls r M
    | .null :: r => am_nx (pc + n) ls r M
    | _ => none
  | .tableswitch dflt lo hi offs => match st with
    | .int x :: r => am_nx (am_sw pc dflt lo hi offs x) ls r M
    | _ => none
  | .getfield _ => match st with
    | .ref t :: r => match am_gf M t d.2 d.1 with
      | some v => am_nx (pc + n) ls (v :: r) M
      | none => none
    | _ => none
  | .putfield _ => match st with
    | v :: .ref t :: r => match am_pf M t d.2 d.1 v with
      | some M' => am_nx (pc + n) ls r M'
      | none => none
    | _ => none
  | .iaload => match st with
    | .int i :: .ref a :: r => match am_ia M a i with
      | some x => am_nx (pc + n) ls (.int x :: r) M
      | none => none
    | .int i :: .retAddr 0 :: r => if i < 0 then none else match X[i.toNatClampNeg]? with
      | some x => am_nx (pc + n) ls (.int x :: r) M
      | none => none
    | _ => none
  | .iastore => match st with
    | .int x :: .int i :: .ref a :: r => match am_iset M a i x with
      | some M' => am_nx (pc + n) ls r M'
      | none => none
    | _ => none
  | .laload => match st with
    | .int i :: .ref a :: r => match am_la M a i with
      | some x => am_nx (pc + n) ls (.long x :: r) M
      | none => none
    | _ => none
  | .lastore => match st with
    | .long x :: .int i :: .ref a :: r => match am_lset M a i x with
      | some M' => am_nx (pc + n) ls r M'
      | none => none
    | _ => none
  | .aaload => match st with
    | .int i :: .ref a :: r => match am_aa M a i with
      | some v => am_nx (pc + n) ls (v :: r) M
      | none => none
    | _ => none
  | .aastore => match st with
    | v :: .int i :: .ref a :: r => match am_aset M a i v with
      | some M' => am_nx (pc + n) ls r M'
      | none => none
    | _ => none
  | .arraylength => match st with
    | .ref a :: r => match am_len M a with
      | some x => am_nx (pc + n) ls (.int x :: r) M
      | none => none
    | .retAddr 0 :: r => am_nx (pc + n) ls (.int (Int32.ofNat X.length) :: r) M
    | _ => none
  | .newarray t => match st with
    | .int x :: r => if x < 0 ∨ 100000 < x.toNatClampNeg then none else match t with
      | .int => am_nx (pc + n) ls (.ref M.length :: r) (M ++ [.inl (List.replicate x.toNatClampNeg 0)])
      | .long => am_nx (pc + n) ls (.ref M.length :: r) (M ++ [.inr (.inl (List.replicate x.toNatClampNeg 0))])
      | _ => none
    | _ => none
  | .anewarray _ => match st with
    | .int x :: r => if x < 0 ∨ 100000 < x.toNatClampNeg then none else am_nx (pc + n) ls (.ref M.length :: r) (M ++ [.inr (.inr (.inl (d.1, List.replicate x.toNatClampNeg .null)))])
    | _ => none
  | .new _ => am_nx (pc + n) ls (.ref M.length :: st) (M ++ [.inr (.inr (.inr (d.1, am_dfs.getD d.1 [])))])
  | .instanceof _ => match st with
    | .ref t :: r => match am_cls M t with
      | some c => match d.2.lookup c with
        | some b => am_nx (pc + n) ls (.int (Int32.ofNat b) :: r) M
        | none => none
      | none => none
    | _ => none
  | .invokestatic _ => match am_args d.1 st with
    | some (As, r) => match d.2 with
      | (_, f) :: _ => am_call f (pc + n) ls As r M
      | [] => none
    | none => none
  | .invokespecial _ => match am_args d.1 st with
    | some (As, .ref t :: r) => match d.2 with
      | (_, f) :: _ => if (am_cls M t).isSome = true then am_call f (pc + n) ls (.ref t :: As) r M else none
      | [] => none
    | _ => none
  | .invokevirtual _ => match am_args d.1 st with
    | some (As, .ref t :: r) => match am_cls M t with
      | some c => match d.2.lookup c with
        | some f => if 1000 ≤ f then none else am_call f (pc + n) ls (.ref t :: As) r M
        | none => none
      | none => none
    | some (As, .retAddr k :: r) => match d.2 with
      | (_, f) :: _ => if 1000 ≤ f then am_call f (pc + n) ls (.retAddr k :: As) r M else none
      | [] => none
    | _ => none
  | .ireturn => match st with
    | [.int x] => if d.1 = 1 ∧ ¬ (x = 0 ∨ x = 1) then none else some (.inr (.inl (some (.int x))))
    | _ => none
  | .lreturn => match st with
    | [.long x] => some (.inr (.inl (some (.long x))))
    | _ => none
  | .areturn => match st with
    | [v] => if am_isR v = true then some (.inr (.inl (some v))) else none
    | _ => none
  | .return_ => match st with
    | [] => some (.inr (.inl none))
    | _ => none
  | _ => none
