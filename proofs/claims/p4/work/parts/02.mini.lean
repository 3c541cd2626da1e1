/-! ===== THE MINI MACHINE: decoded instructions with resolved links, a heap that is a list of cells, references that are places ===== -/
/-- a cell: an array of whole numbers (kind of type, length, contents as one number), an array of references, an object -/
abbrev mm_C : Type := (Nat × Nat × Nat) ⊕ ((Nat × List (Option Nat)) ⊕ (Nat × List Value))
abbrev mm_H : Type := List mm_C
abbrev mm_L : Type := List (Option Value)
/-- an instruction: its place, itself, the place behind it, what its links say -/
abbrev mm_I : Type := Nat × Instr × Nat × List Nat
/-- a step: on with a change of the heap, a call, a return, a throw -/
abbrev mm_A : Type := (Nat × mm_L × List Value × Option ((Nat × mm_C) ⊕ mm_C)) ⊕ ((Nat × List Value × List Value) ⊕ (Unit ⊕ Nat))
/-- how many fields or elements a cell has -/
def mm_sl (c : mm_C) : Nat := match c with
  | .inl (_, n, _) => n
  | .inr (.inl (_, rs)) => rs.length
  | .inr (.inr (ci, fs)) => match Nat.ble 15 ci with
    | true => 6
    | false => fs.length
def mm_sum (h : mm_H) : Nat := match h with
  | [] => 0
  | c :: r => mm_sl c + mm_sum r
abbrev mm_R : Type := (Nat × mm_L × List Value) ⊕ Nat
abbrev mm_V : Type := Option Value ⊕ Nat
def mm_fN {α : Type} (n : Nat) (k : Nat → α) : α := match n with
  | 0 => k 0
  | m + 1 => k (m + 1)
def mm_fI {α : Type} (x : Int32) (k : Int32 → α) : α := mm_fN x.toUInt32.toNat (fun n => k (Int32.ofNat n))
def mm_fL {α : Type} (x : Int64) (k : Int64 → α) : α := mm_fN x.toUInt64.toNat (fun n => k (Int64.ofNat n))
/-- contents of arrays: w bits a place -/
def mm_ag (w N i : Nat) : Nat := (N >>> (w * i)) % 2 ^ w
def mm_as (w N i v : Nat) : Nat := N ^^^ ((mm_ag w N i ^^^ (v % 2 ^ w)) <<< (w * i))
def mm_cat2 (v : Value) : Bool := match v with
  | .long _ => true
  | .double _ => true
  | _ => false
def mm_get (L : mm_L) (i : Nat) : Option Value := match L[i]? with
  | some o => o
  | none => none
def mm_kill (L : mm_L) (i : Nat) : mm_L := match i with
  | 0 => L
  | k + 1 => match mm_get L k with
    | some v => if mm_cat2 v = true then L.set k none else L
    | none => L
def mm_set1 (L : mm_L) (i : Nat) (v : Value) : Option mm_L := if i < L.length then some ((mm_kill L i).set i (some v)) else none
def mm_set2 (L : mm_L) (i : Nat) (v : Value) : Option mm_L := if i + 1 < L.length then some (((mm_kill L i).set i (some v)).set (i + 1) none) else none
def mm_go (nx : Nat) (L : mm_L) (st : List Value) : Option mm_A := some (.inl (nx, L, st, none))
def mm_ld (nx : Nat) (L : mm_L) (st : List Value) (i : Nat) (ok : Value → Bool) : Option mm_A := match mm_get L i with
  | some v => if ok v = true then mm_go nx L (v :: st) else none
  | none => none
def mm_isI (v : Value) : Bool := match v with
  | .int _ => true
  | _ => false
def mm_isL (v : Value) : Bool := match v with
  | .long _ => true
  | _ => false
def mm_isD (v : Value) : Bool := match v with
  | .double _ => true
  | _ => false
def mm_isA (v : Value) : Bool := match v with
  | .ref _ => true
  | .null => true
  | _ => false
def mm_s1 (nx : Nat) (L : mm_L) (st : List Value) (i : Nat) (ok : Value → Bool) : Option mm_A := match st with
  | v :: r => if ok v = true then (match mm_set1 L i v with
    | some L' => mm_go nx L' r
    | none => none) else none
  | _ => none
def mm_s2 (nx : Nat) (L : mm_L) (st : List Value) (i : Nat) (ok : Value → Bool) : Option mm_A := match st with
  | v :: r => if ok v = true then (match mm_set2 L i v with
    | some L' => mm_go nx L' r
    | none => none) else none
  | _ => none
def mm_i2 (nx : Nat) (L : mm_L) (st : List Value) (f : Int32 → Int32 → Int32) : Option mm_A := match st with
  | .int y :: .int x :: r => mm_fI (f x y) fun z => mm_go nx L (.int z :: r)
  | _ => none
def mm_i1 (nx : Nat) (L : mm_L) (st : List Value) (f : Int32 → Int32) : Option mm_A := match st with
  | .int x :: r => mm_fI (f x) fun z => mm_go nx L (.int z :: r)
  | _ => none
def mm_br (nx : Nat) (L : mm_L) (ax : List Nat) (r : List Value) (b : Bool) : Option mm_A := match ax with
  | [t] => match b with
    | true => mm_go t L r
    | false => mm_go nx L r
  | _ => none
def mm_un (x : Int32) : Nat := x.toUInt32.toNat
def mm_sn (x : Int32) : Nat := (mm_un x + 2147483648) % 4294967296
def mm_lt (x y : Int32) : Bool := Nat.ble (mm_sn x + 1) (mm_sn y)
def mm_eq (x y : Int32) : Bool := Nat.beq (mm_un x) (mm_un y)
def mm_cnd (c : ClassFile.Cond) (x y : Int32) : Bool := match c with
  | .eq => mm_eq x y
  | .ne => !(mm_eq x y)
  | .lt => mm_lt x y
  | .ge => !(mm_lt x y)
  | .gt => mm_lt y x
  | .le => !(mm_lt y x)
def mm_lsn (x : Int64) : Nat := match Nat.ble 9223372036854775808 x.toUInt64.toNat with
  | true => x.toUInt64.toNat - 9223372036854775808
  | false => x.toUInt64.toNat + 9223372036854775808
def mm_lcmp (x y : Int64) : Int32 := match Nat.ble (mm_lsn x + 1) (mm_lsn y) with
  | true => -1
  | false => match Nat.beq (mm_lsn x) (mm_lsn y) with
    | true => 0
    | false => 1
def mm_rd (ext : Nat → Option mm_C) (h : mm_H) (a : Nat) : Option mm_C := match Nat.ble 64 a with
  | true => h[a - 64]?
  | false => ext a
def mm_prim (c : Option mm_C) (t : Nat) : Option (Nat × Nat) := match c with
  | some (.inl (t', n, N)) => match Nat.beq t t' with
    | true => some (n, N)
    | false => none
  | _ => none
def mm_in (i : Int32) (n : Nat) : Bool := Nat.ble (mm_un i + 1) n && Nat.ble n 2147483647
/-- a write: own cells alone -/
def mm_wr (nx : Nat) (L : mm_L) (st : List Value) (a : Nat) (c : mm_C) : Option mm_A := match Nat.ble 64 a with
  | true => some (.inl (nx, L, st, some (.inl (a - 64, c))))
  | false => none
/-- k places of N from p on, into M from q on -/
def mm_cpy (w N p : Nat) : Nat → Nat → Nat → Nat
  | M, _, 0 => M
  | M, q, k + 1 => mm_fN (mm_as w M q (mm_ag w N p)) fun M' => mm_cpy w N (p + 1) M' (q + 1) k
def mm_obj (c : Option mm_C) (ci : Nat) : Option (List Value) := match c with
  | some (.inr (.inr (ci', fs))) => match Nat.beq ci ci' with
    | true => some fs
    | false => none
  | _ => none
/-- the value's kind by the field's descriptor: what a store keeps -/
def mm_fit (ty : FieldType) (v : Value) : Bool := match ty, v with
  | .int, .int _ => true
  | .boolean, .int x => Nat.ble (mm_un x) 1
  | .byte, .int x => mm_eq x.toInt8.toInt32 x
  | .object _, .ref _ => true
  | .object _, .null => true
  | .array _, .ref _ => true
  | .array _, .null => true
  | _, _ => false
def mm_dflt (ty : FieldType) : Value := match ty with
  | .object _ => .null
  | .array _ => .null
  | .long => .long 0
  | .float => .float 0
  | .double => .double 0
  | _ => .int 0
/-- what there is apart from the heap: externals' cells, the script, statics, the classes' field types, the methods' class -/
abbrev mm_X : Type := (Nat → Option mm_C) × (Nat × (Nat → Option Int32)) × (Nat → Option Value) × (Nat → List FieldType)
def mm_recv (X : mm_X) (h : mm_H) (v : Option Value) (ci : Nat) : Bool := match v with
  | some (.ref a) => match mm_obj (mm_rd X.1 h a) ci with
    | some _ => true
    | none => false
  | _ => false
def mm_recv0 (v : Option Value) : Bool := match v with
  | some (.ref a) => Nat.ble 64 a
  | _ => false
/-- what a call leaves on the stack is little -/
def mm_rst (st : List Value) (n : Nat) : Bool := Nat.ble st.length (n + 4) || Nat.ble ((st.drop n).map fun v => match mm_cat2 v with
  | true => 2
  | false => 1).sum 8
def mm_call (X : mm_X) (h : mm_H) (nx : Nat) (L : mm_L) (st : List Value) (ax : List Nat) : Option mm_A := match ax with
  | kd :: j :: n :: r => match Nat.ble n st.length && mm_rst st n with
    | false => none
    | true => match kd, r with
      | 9, _ => none
      | 0, ci :: _ => match mm_recv X h (st[n - 1]?) ci with
        | true => some (.inr (.inl (j, (st.take n).reverse, st.drop n)))
        | false => none
      | 5, ci :: _ => match mm_recv X h (st[n - 1]?) ci with
        | true => some (.inr (.inl (j, (st.take n).reverse, st.drop n)))
        | false => none
      | 3, ci :: _ => match mm_recv X h (st[n - 1]?) ci with
        | true => some (.inr (.inl (j, (st.take n).reverse, st.drop n)))
        | false => none
      | 4, ci :: _ => match mm_recv X h (st[n - 1]?) ci with
        | true => some (.inr (.inl (j, (st.take n).reverse, st.drop n)))
        | false => none
      | 2, _ => match mm_recv0 (st[n - 1]?) with
        | true => some (.inr (.inl (j, (st.take n).reverse, st.drop n)))
        | false => none
      | 7, _ => match mm_recv0 (st[n - 1]?) with
        | true => some (.inr (.inl (j, (st.take n).reverse, st.drop n)))
        | false => none
      | 1, _ => some (.inr (.inl (j, (st.take n).reverse, st.drop n)))
      | 6, _ => some (.inr (.inl (j, (st.take n).reverse, st.drop n)))
      | 8, _ => some (.inr (.inl (j, (st.take n).reverse, st.drop n)))
      | _, _ => none
  | _ => none
/-- k places of N from p on are bytes -/
def mm_f8 (N p : Nat) : Nat → Bool
  | 0 => true
  | k + 1 => mm_fit .byte (.int (Int32.ofNat (mm_ag 32 N p))) && mm_f8 N (p + 1) k
def mm_copyi (X : mm_X) (h : mm_H) (nx : Nat) (L : mm_L) (st : List Value) : Option mm_A := match st with
  | .int n :: .int dp :: .ref a :: .int sp :: .ref a0 :: r => match mm_prim (mm_rd X.1 h a0) 0, mm_prim (mm_rd X.1 h a) 0 with
    | some (n0, N0), some (n1, N1) => match Nat.ble r.length 4 && (Nat.ble (mm_un n) 2147483647 && (Nat.ble (mm_un dp) 2147483647 && (Nat.ble (mm_un sp) 2147483647 && (Nat.ble 64 a0 && (Nat.ble (mm_un sp + mm_un n) n0 && Nat.ble (mm_un dp + mm_un n) n1))))) with
      | true => mm_fN (mm_cpy 32 N0 (mm_un sp) N1 (mm_un dp) (mm_un n)) fun M => mm_wr nx L r a (.inl (0, n1, M))
      | false => none
    | _, _ => none
  | _ => none
def mm_copyb (X : mm_X) (h : mm_H) (nx : Nat) (L : mm_L) (st : List Value) : Option mm_A := match st with
  | .int n :: .int dp :: .ref a :: .int sp :: .ref a0 :: r => match mm_prim (mm_rd X.1 h a0) 2, mm_prim (mm_rd X.1 h a) 2 with
    | some (n0, N0), some (n1, N1) => match Nat.ble r.length 4 && (Nat.ble (mm_un n) 2147483647 && (Nat.ble (mm_un dp) 2147483647 && (Nat.ble (mm_un sp) 2147483647 && (mm_f8 N0 (mm_un sp) (mm_un n) && (Nat.ble (mm_un sp + mm_un n) n0 && Nat.ble (mm_un dp + mm_un n) n1))))) with
      | true => mm_fN (mm_cpy 32 N0 (mm_un sp) N1 (mm_un dp) (mm_un n)) fun M => mm_wr nx L r a (.inl (2, n1, M))
      | false => none
    | _, _ => none
  | _ => none
def mm_copy (X : mm_X) (h : mm_H) (nx : Nat) (L : mm_L) (st : List Value) : Option mm_A := match st with
  | .int n :: .int dp :: .ref a :: .int sp :: .ref a0 :: r => match mm_prim (mm_rd X.1 h a) 2 with
    | some _ => mm_copyb X h nx L (.int n :: .int dp :: .ref a :: .int sp :: .ref a0 :: r)
    | none => mm_copyi X h nx L (.int n :: .int dp :: .ref a :: .int sp :: .ref a0 :: r)
  | _ => none
/-- Math.max (true), Math.min (false) of ints -/
def mm_math (nx : Nat) (L : mm_L) (st : List Value) (mx : Bool) : Option mm_A := match st with
  | .int y :: .int x :: r => match Nat.ble r.length 4 with
    | true => match mx with
      | true => mm_fI (match mm_lt x y with
        | true => y
        | false => x) fun z => mm_go nx L (.int z :: r)
      | false => mm_fI (match mm_lt y x with
        | true => y
        | false => x) fun z => mm_go nx L (.int z :: r)
    | false => none
  | _ => none
/-- the step of one instruction -/
def mm_stp (X : mm_X) (h : mm_H) (L : mm_L) (st : List Value) (mi : mm_I) : Option mm_A := match mi with
  | (pc, i, nx, ax) => match i with
    | .aload k => mm_ld nx L st k mm_isA
    | .aload_n k => mm_ld nx L st k.val mm_isA
    | .iload k => mm_ld nx L st k mm_isI
    | .iload_n k => mm_ld nx L st k.val mm_isI
    | .lload k => mm_ld nx L st k mm_isL
    | .lload_n k => mm_ld nx L st k.val mm_isL
    | .dload k => mm_ld nx L st k mm_isD
    | .dload_n k => mm_ld nx L st k.val mm_isD
    | .istore k => mm_s1 nx L st k mm_isI
    | .istore_n k => mm_s1 nx L st k.val mm_isI
    | .astore k => mm_s1 nx L st k mm_isA
    | .astore_n k => mm_s1 nx L st k.val mm_isA
    | .lstore k => mm_s2 nx L st k mm_isL
    | .dstore k => mm_s2 nx L st k mm_isD
    | .iconst n => mm_fI (Int32.ofInt n) fun z => mm_go nx L (.int z :: st)
    | .bipush n => mm_fI (Int8.ofInt n).toInt32 fun z => mm_go nx L (.int z :: st)
    | .sipush n => mm_fI (Int16.ofInt n).toInt32 fun z => mm_go nx L (.int z :: st)
    | .lconst n => mm_go nx L (.long (Int64.ofNat n.val) :: st)
    | .aconst_null => mm_go nx L (.null :: st)
    | .ldc _ => match ax with
      | 0 :: c :: _ => mm_go nx L (.int (Int32.ofNat c) :: st)
      | 1 :: c :: _ => mm_go nx L (.ref c :: st)
      | _ => none
    | .ldc_w _ => match ax with
      | 0 :: c :: _ => mm_go nx L (.int (Int32.ofNat c) :: st)
      | 1 :: c :: _ => mm_go nx L (.ref c :: st)
      | _ => none
    | .ldc2_w _ => match ax with
      | c :: _ => mm_go nx L (.long (Int64.ofNat c) :: st)
      | _ => none
    | .iadd => mm_i2 nx L st (fun x y => x + y)
    | .isub => mm_i2 nx L st (fun x y => x - y)
    | .imul => mm_i2 nx L st (fun x y => x * y)
    | .iand => mm_i2 nx L st (fun x y => x &&& y)
    | .ior => mm_i2 nx L st (fun x y => x ||| y)
    | .ixor => mm_i2 nx L st (fun x y => x ^^^ y)
    | .ishl => mm_i2 nx L st (fun x y => x <<< (y &&& 31))
    | .ishr => mm_i2 nx L st (fun x y => x >>> (y &&& 31))
    | .iushr => mm_i2 nx L st (fun x y => (x.toUInt32 >>> (y.toUInt32 &&& Int32.toUInt32 31)).toInt32)
    | .idiv => match st with
      | .int y :: _ => match mm_eq y 0 with
        | true => none
        | false => mm_i2 nx L st (fun x y => x / y)
      | _ => none
    | .irem => match st with
      | .int y :: _ => match mm_eq y 0 with
        | true => none
        | false => mm_i2 nx L st (fun x y => x - x / y * y)
      | _ => none
    | .ineg => mm_i1 nx L st (fun x => -x)
    | .i2b => mm_i1 nx L st (fun x => x.toInt8.toInt32)
    | .i2c => mm_i1 nx L st (fun x => (x.toUInt32 % 65536).toInt32)
    | .i2l => match st with
      | .int x :: r => mm_fL x.toInt64 fun z => mm_go nx L (.long z :: r)
      | _ => none
    | .lcmp => match st with
      | .long y :: .long x :: r => mm_fI (mm_lcmp x y) fun z => mm_go nx L (.int z :: r)
      | _ => none
    | .i2f => match st with
      | .int x :: r => mm_go nx L (.float (FP.i2f x) :: r)
      | _ => none
    | .i2d => match st with
      | .int x :: r => mm_go nx L (.double (FP.i2d x) :: r)
      | _ => none
    | .fconst 0 => mm_go nx L (.float FP.fconst0 :: st)
    | .dconst 0 => mm_go nx L (.double FP.dconst0 :: st)
    | .fdiv => match st with
      | .float y :: .float x :: r => if FP.fdiv x y &&& 0x7fffffff ≤ 0x7f800000 then mm_go nx L (.float (FP.fdiv x y) :: r) else none
      | _ => none
    | .ddiv => match st with
      | .double y :: .double x :: r => if FP.ddiv x y &&& 0x7fffffffffffffff ≤ 0x7ff0000000000000 then mm_go nx L (.double (FP.ddiv x y) :: r) else none
      | _ => none
    | .f2d => match st with
      | .float x :: r => if FP.f2d x &&& 0x7fffffffffffffff ≤ 0x7ff0000000000000 then mm_go nx L (.double (FP.f2d x) :: r) else none
      | _ => none
    | .dcmp op => match st with
      | .double y :: .double x :: r => mm_go nx L (.int (Op.cmpValue (FP.dcmp x y) op) :: r)
      | _ => none
    | .dup => match st with
      | v :: r => if mm_cat2 v = true then none else mm_go nx L (v :: v :: r)
      | _ => none
    | .pop => match st with
      | v :: r => if mm_cat2 v = true then none else mm_go nx L r
      | _ => none
    | .dup_x1 => match st with
      | v :: w :: r => if mm_cat2 v = true ∨ mm_cat2 w = true then none else mm_go nx L (v :: w :: v :: r)
      | _ => none
    | .dup2 => match st with
      | v :: w :: r => if mm_cat2 v = true ∨ mm_cat2 w = true then none else mm_go nx L (v :: w :: v :: w :: r)
      | _ => none
    | .iinc k n => match mm_get L k with
      | some (.int x) => mm_fI (x + Int32.ofInt n) fun z => match mm_set1 L k (.int z) with
        | some L' => mm_go nx L' st
        | none => none
      | _ => none
    | .ifCond c _ => match st with
      | .int x :: r => mm_br nx L ax r (mm_cnd c x 0)
      | _ => none
    | .if_icmp c _ => match st with
      | .int y :: .int x :: r => mm_br nx L ax r (mm_cnd c x y)
      | _ => none
    | .goto _ => match ax with
      | [t] => mm_go t L st
      | _ => none
    | .ifnull _ => match st with
      | .null :: r => mm_br nx L ax r true
      | .ref a :: r => match Nat.beq a 63 with
        | true => none
        | false => mm_br nx L ax r false
      | _ => none
    | .ifnonnull _ => match st with
      | .null :: r => mm_br nx L ax r false
      | .ref a :: r => match Nat.beq a 63 with
        | true => none
        | false => mm_br nx L ax r true
      | _ => none
    | .tableswitch _ lo _ offs => match st, ax with
      | .int x :: r, d :: ts => match lo with
        | .ofNat l0 => match Nat.ble (mm_un x) 2147483647 && (Nat.ble l0 (mm_un x) && Nat.ble (mm_un x - l0 + 1) ts.length) with
          | true => match ts[mm_un x - l0]? with
            | some t => mm_go t L r
            | none => none
          | false => mm_go d L r
        | .negSucc _ => none
      | _, _ => none
    | .iaload => match st with
      | .int i :: .ref a :: r => match Nat.beq a 0 with
        | true => match mm_in i X.2.1.1 with
          | true => match X.2.1.2 (mm_un i) with
            | some x => mm_go nx L (.int x :: r)
            | none => none
          | false => none
        | false => match mm_prim (mm_rd X.1 h a) 0 with
          | some (n, N) => match mm_in i n with
            | true => mm_fI (Int32.ofNat (mm_ag 32 N (mm_un i))) fun z => mm_go nx L (.int z :: r)
            | false => none
          | none => none
      | _ => none
    | .baload => match st with
      | .int i :: .ref a :: r => match mm_prim (mm_rd X.1 h a) 2 with
        | some (n, N) => match mm_in i n with
          | true => mm_fI (Int32.ofNat (mm_ag 32 N (mm_un i))) fun z => mm_go nx L (.int z :: r)
          | false => none
        | none => none
      | _ => none
    | .laload => match st with
      | .int i :: .ref a :: r => match mm_prim (mm_rd X.1 h a) 1 with
        | some (n, N) => match mm_in i n && Nat.ble 64 a with
          | true => mm_fL (Int64.ofNat (mm_ag 64 N (mm_un i))) fun z => mm_go nx L (.long z :: r)
          | false => none
        | none => none
      | _ => none
    | .aaload => match st with
      | .int i :: .ref a :: r => match Nat.ble 64 a with
        | true => match mm_rd X.1 h a with
          | some (.inr (.inl (t, rs))) => match mm_in i rs.length && (Nat.ble 3 t && Nat.ble t 4) with
            | true => match rs[mm_un i]? with
              | some (some q) => mm_go nx L (.ref q :: r)
              | some none => mm_go nx L (.null :: r)
              | none => none
            | false => none
          | _ => none
        | false => none
      | _ => none
    | .arraylength => match st with
      | .ref a :: r => match Nat.beq a 0 with
        | true => mm_go nx L (.int (Int32.ofNat X.2.1.1) :: r)
        | false => match mm_rd X.1 h a with
          | some (.inl (t, n, _)) => match Nat.ble t 4 with
            | true => mm_go nx L (.int (Int32.ofNat n) :: r)
            | false => none
          | some (.inr (.inl (t, rs))) => match Nat.ble t 4 && Nat.ble 64 a with
            | true => mm_go nx L (.int (Int32.ofNat rs.length) :: r)
            | false => none
          | _ => none
      | _ => none
    | .iastore => match st with
      | .int x :: .int i :: .ref a :: r => match mm_prim (mm_rd X.1 h a) 0 with
        | some (n, N) => match mm_in i n with
          | true => mm_fN (mm_as 32 N (mm_un i) (mm_un x)) fun M => mm_wr nx L r a (.inl (0, n, M))
          | false => none
        | none => none
      | _ => none
    | .bastore => match st with
      | .int x :: .int i :: .ref a :: r => match mm_prim (mm_rd X.1 h a) 2 with
        | some (n, N) => match mm_in i n with
          | true => mm_fN (mm_as 32 N (mm_un i) (mm_un x.toInt8.toInt32)) fun M => mm_wr nx L r a (.inl (2, n, M))
          | false => none
        | none => none
      | _ => none
    | .lastore => match st with
      | .long x :: .int i :: .ref a :: r => match mm_prim (mm_rd X.1 h a) 1 with
        | some (n, N) => match mm_in i n with
          | true => mm_fN (mm_as 64 N (mm_un i) x.toUInt64.toNat) fun M => mm_wr nx L r a (.inl (1, n, M))
          | false => none
        | none => none
      | _ => none
    | .aastore => match st with
      | .ref v :: .int i :: .ref a :: r => match mm_rd X.1 h a with
        | some (.inr (.inl (t, rs))) => match mm_in i rs.length && (Nat.ble 64 a && (Nat.ble 64 v && ((Nat.beq t 3 && mm_recv X h (some (.ref v)) 12) || (Nat.beq t 4 && mm_recv X h (some (.ref v)) 8)))) with
          | true => mm_wr nx L r a (.inr (.inl (t, rs.set (mm_un i) (some v))))
          | false => none
        | _ => none
      | _ => none
    | .getfield _ => match st, ax with
      | .ref a :: r, _ :: ci :: k :: _ => match mm_obj (mm_rd X.1 h a) ci with
        | some fs => match fs[k]? with
          | some v => mm_go nx L (v :: r)
          | none => none
        | none => none
      | _, _ => none
    | .putfield _ => match st, ax with
      | v :: .ref a :: r, _ :: ci :: k :: _ => match mm_obj (mm_rd X.1 h a) ci with
        | some fs => match fs[k]? with
          | some _ => match (X.2.2.2 ci)[k]? with
            | some ty => match mm_fit ty v with
              | true => mm_wr nx L r a (.inr (.inr (ci, fs.set k v)))
              | false => none
            | none => none
          | none => none
        | none => none
      | _, _ => none
    | .getstatic _ => match ax with
      | _ :: k :: _ => match X.2.2.1 k with
        | some v => mm_go nx L (v :: st)
        | none => none
      | _ => none
    | .new _ => match ax with
      | 0 :: ci :: _ => some (.inl (nx, L, .ref (64 + h.length) :: st, some (.inr (.inr (.inr (ci, (X.2.2.2 ci).map mm_dflt))))))
      | 1 :: ci :: _ => match Nat.ble st.length 4 with
        | true => some (.inr (.inr (.inr ci)))
        | false => none
      | _ => none
    | .newarray _ => match st, ax with
      | .int n :: r, [t] => match Nat.ble (mm_un n) 1000000 with
        | true => some (.inl (nx, L, .ref (64 + h.length) :: r, some (.inr (.inl (t, mm_un n, 0)))))
        | false => none
      | _, _ => none
    | .anewarray _ => match st, ax with
      | .int n :: r, t :: _ => match Nat.ble (mm_un n) 1000000 with
        | true => some (.inl (nx, L, .ref (64 + h.length) :: r, some (.inr (.inr (.inl (t, List.replicate (mm_un n) none))))))
        | false => none
      | _, _ => none
    | .invokevirtual _ => mm_call X h nx L st ax
    | .invokestatic _ => match ax with
      | 10 :: _ => mm_copy X h nx L st
      | 11 :: _ => mm_math nx L st true
      | 12 :: _ => mm_math nx L st false
      | _ => mm_call X h nx L st ax
    | .invokespecial _ => match ax with
      | 9 :: _ => match st with
        | .ref a :: r => match Nat.ble 64 a && Nat.ble r.length 4 with
          | true => mm_go nx L r
          | false => none
        | _ => none
      | _ => mm_call X h nx L st ax
    | .ireturn => some (.inr (.inr (.inl ())))
    | .areturn => some (.inr (.inr (.inl ())))
    | .freturn => some (.inr (.inr (.inl ())))
    | .dreturn => some (.inr (.inr (.inl ())))
    | .return_ => some (.inr (.inr (.inl ())))
    | _ => none
def mm_lk (c : List mm_I) (pc : Nat) : Option mm_I := match c with
  | [] => none
  | mi :: r => match Nat.beq mi.1 pc with
    | true => some mi
    | false => mm_lk r pc
/-- the handler of a method that catches: the range, and where it ends with 1 -/
abbrev mm_M : Type := List mm_I × Nat × Nat × List (Nat × Nat × Nat × Nat × Nat)
/-- code, length of the locals, kind of answer (0 none, 1 int, 2 boolean, 3 char, 4 byte, 5 reference, 6 float, 7 double), handlers: from, to, the place of the handler's ireturn, the local that it sets -/
def mm_entry (n : Nat) (as : List Value) : mm_L := match as with
  | [] => List.replicate n none
  | v :: r => if mm_cat2 v = true then some v :: none :: mm_entry (n - 2) r else some v :: mm_entry (n - 1) r
/-- a throw at pc of the class ci: out, caught (on at the handler's end, with 1), or not decided -/
def mm_hd (hs : List (Nat × Nat × Nat × Nat × Nat)) (pc ci : Nat) : Option (Option (Nat × Nat)) := match hs with
  | [] => some none
  | [(a, b, t, k, cx)] => match Nat.ble a pc && (Nat.ble (pc + 1) b && Nat.beq ci cx) with
    | true => some (some (t, k))
    | false => none
  | _ => none
def mm_exe (X : mm_X) (P : Nat → Option mm_M) (callee : Nat → List Value → mm_H → Option (mm_V × mm_H)) (M : mm_M) : Nat → Nat → mm_L → List Value → mm_H → Option (mm_R × mm_H)
  | 0, _, _, _, _ => none
  | n + 1, pc, L, st, h => match mm_lk M.1 pc with
    | none => none
    | some mi => match mm_stp X h L st mi with
      | none => none
      | some (.inl (pc', L', st', none)) => mm_exe X P callee M n pc' L' st' h
      | some (.inl (pc', L', st', some (.inl (k, c)))) => match h[k]? with
        | some c0 => match Nat.beq (mm_sl c0) (mm_sl c) with
          | true => mm_exe X P callee M n pc' L' st' (h.set k c)
          | false => none
        | none => none
      | some (.inl (pc', L', st', some (.inr c))) => mm_exe X P callee M n pc' L' st' (h ++ [c])
      | some (.inr (.inl (j, as, r))) => match callee j as h with
        | none => none
        | some (.inl none, h') => mm_exe X P callee M n mi.2.2.1 L r h'
        | some (.inl (some v), h') => mm_exe X P callee M n mi.2.2.1 L (v :: r) h'
        | some (.inr ci, h') => match mm_hd M.2.2.2 pc ci with
          | some (some (t, k)) => some (.inl (t, (mm_kill L k).set k none, [.int 1]), h')
          | some none => some (.inr ci, h')
          | none => none
      | some (.inr (.inr (.inl _))) => some (.inl (pc, L, st), h)
      | some (.inr (.inr (.inr ci))) => match M.2.2.2 with
        | [] => some (.inr ci, h ++ [.inr (.inr (ci, []))])
        | _ => none
def mm_okR (t : Nat) (v : Value) : Bool := match t, v with
  | 1, .int _ => true
  | 2, .int x => Nat.ble (mm_un x) 1
  | 3, .int x => Nat.ble (mm_un x) 65535
  | 4, .int x => mm_eq x.toInt8.toInt32 x
  | 5, .ref _ => true
  | 5, .null => true
  | 6, .float _ => true
  | 7, .double _ => true
  | _, _ => false
def mm_ans (t : Nat) (st : List Value) : Option mm_V := match t with
  | 0 => match st with
    | [] => some (.inl none)
    | _ => none
  | _ => match st with
    | [v] => match mm_okR t v with
      | true => some (.inl (some v))
      | false => none
    | _ => none
def mm_cats (as : List Value) : Nat := match as with
  | [] => 0
  | v :: r => (match mm_cat2 v with
    | true => 2
    | false => 1) + mm_cats r
def mm_run (X : mm_X) (P : Nat → Option mm_M) (fuel : Nat) : Nat → Nat → List Value → mm_H → Option (mm_V × mm_H)
  | 0, _, _, _ => none
  | d + 1, j, as, h => match P j with
    | none => none
    | some M => match Nat.ble (mm_cats as) M.2.1 with
      | false => none
      | true => match mm_exe X P (mm_run X P fuel d) M fuel 0 (mm_entry M.2.1 as) [] h with
        | some (.inl (_, _, st), h') => match mm_ans M.2.2.1 st with
          | some v => some (v, h')
          | none => none
        | some (.inr ci, h') => some (.inr ci, h')
        | none => none
