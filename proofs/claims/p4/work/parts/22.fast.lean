/-! ===== the steps over an interface of the heap; the machine over a trie of cells ===== -/
def mg_recv (rd : Nat → Option mm_C) (v : Option Value) (ci : Nat) : Bool := match v with
  | some (.ref a) => match mm_obj (rd a) ci with
    | some _ => true
    | none => false
  | _ => false
def mg_call (rd : Nat → Option mm_C) (nx : Nat) (L : mm_L) (st : List Value) (ax : List Nat) : Option mm_A := match ax with
  | kd :: j :: n :: r => match Nat.ble n st.length && mm_rst st n with
    | false => none
    | true => match kd, r with
      | 9, _ => none
      | 0, ci :: _ => match mg_recv rd (st[n - 1]?) ci with
        | true => some (.inr (.inl (j, (st.take n).reverse, st.drop n)))
        | false => none
      | 5, ci :: _ => match mg_recv rd (st[n - 1]?) ci with
        | true => some (.inr (.inl (j, (st.take n).reverse, st.drop n)))
        | false => none
      | 3, ci :: _ => match mg_recv rd (st[n - 1]?) ci with
        | true => some (.inr (.inl (j, (st.take n).reverse, st.drop n)))
        | false => none
      | 4, ci :: _ => match mg_recv rd (st[n - 1]?) ci with
        | true => some (.inr (.inl (j, (st.take n).reverse, st.drop n)))
        | false => none
      | 2, _ => match mm_recv0 (st[n - 1]?) with
        | true => some (.inr (.inl (j, (st.take n).reverse, st.drop n)))
        | false => none
      | 7, _ => match mm_recv0 (st[n - 1]?) with
        | true => some (.inr (.inl (j, (st.take n).reverse, st.drop n)))
        | false => none
      | 1, _ => some (.inr (.inl (j, (st.take n).reverse, st.drop n)))
      | 6, _ => some (.inr (.inl (j, (st.take n).reverse, st.drop n)))
      | 8, _ => some (.inr (.inl (j, (st.take n).reverse, st.drop n)))
      | _, _ => none
  | _ => none
def mg_copyi (rd : Nat → Option mm_C) (nx : Nat) (L : mm_L) (st : List Value) : Option mm_A := match st with
  | .int n :: .int dp :: .ref a :: .int sp :: .ref a0 :: r => match mm_prim (rd a0) 0, mm_prim (rd a) 0 with
    | some (n0, N0), some (n1, N1) => match Nat.ble r.length 4 && (Nat.ble (mm_un n) 2147483647 && (Nat.ble (mm_un dp) 2147483647 && (Nat.ble (mm_un sp) 2147483647 && (Nat.ble 64 a0 && (Nat.ble (mm_un sp + mm_un n) n0 && Nat.ble (mm_un dp + mm_un n) n1))))) with
      | true => mm_fN (mm_cpy 32 N0 (mm_un sp) N1 (mm_un dp) (mm_un n)) fun M => mm_wr nx L r a (.inl (0, n1, M))
      | false => none
    | _, _ => none
  | _ => none
def mg_copyb (rd : Nat → Option mm_C) (nx : Nat) (L : mm_L) (st : List Value) : Option mm_A := match st with
  | .int n :: .int dp :: .ref a :: .int sp :: .ref a0 :: r => match mm_prim (rd a0) 2, mm_prim (rd a) 2 with
    | some (n0, N0), some (n1, N1) => match Nat.ble r.length 4 && (Nat.ble (mm_un n) 2147483647 && (Nat.ble (mm_un dp) 2147483647 && (Nat.ble (mm_un sp) 2147483647 && (mm_f8 N0 (mm_un sp) (mm_un n) && (Nat.ble (mm_un sp + mm_un n) n0 && Nat.ble (mm_un dp + mm_un n) n1))))) with
      | true => mm_fN (mm_cpy 32 N0 (mm_un sp) N1 (mm_un dp) (mm_un n)) fun M => mm_wr nx L r a (.inl (2, n1, M))
      | false => none
    | _, _ => none
  | _ => none
def mg_copy (rd : Nat → Option mm_C) (nx : Nat) (L : mm_L) (st : List Value) : Option mm_A := match st with
  | .int n :: .int dp :: .ref a :: .int sp :: .ref a0 :: r => match mm_prim (rd a) 2 with
    | some _ => mg_copyb rd nx L (.int n :: .int dp :: .ref a :: .int sp :: .ref a0 :: r)
    | none => mg_copyi rd nx L (.int n :: .int dp :: .ref a :: .int sp :: .ref a0 :: r)
  | _ => none
def mgb_aload (k : Nat) (nx : Nat) (ax : List Nat) (X : mm_X) (rd : Nat → Option mm_C) (hl : Nat) (L : mm_L) (st : List Value) : Option mm_A := mm_ld nx L st k mm_isA
def mgb_aload_n (k : Fin 4) (nx : Nat) (ax : List Nat) (X : mm_X) (rd : Nat → Option mm_C) (hl : Nat) (L : mm_L) (st : List Value) : Option mm_A := mm_ld nx L st k.val mm_isA
def mgb_iload (k : Nat) (nx : Nat) (ax : List Nat) (X : mm_X) (rd : Nat → Option mm_C) (hl : Nat) (L : mm_L) (st : List Value) : Option mm_A := mm_ld nx L st k mm_isI
def mgb_iload_n (k : Fin 4) (nx : Nat) (ax : List Nat) (X : mm_X) (rd : Nat → Option mm_C) (hl : Nat) (L : mm_L) (st : List Value) : Option mm_A := mm_ld nx L st k.val mm_isI
def mgb_lload (k : Nat) (nx : Nat) (ax : List Nat) (X : mm_X) (rd : Nat → Option mm_C) (hl : Nat) (L : mm_L) (st : List Value) : Option mm_A := mm_ld nx L st k mm_isL
def mgb_lload_n (k : Fin 4) (nx : Nat) (ax : List Nat) (X : mm_X) (rd : Nat → Option mm_C) (hl : Nat) (L : mm_L) (st : List Value) : Option mm_A := mm_ld nx L st k.val mm_isL
def mgb_dload (k : Nat) (nx : Nat) (ax : List Nat) (X : mm_X) (rd : Nat → Option mm_C) (hl : Nat) (L : mm_L) (st : List Value) : Option mm_A := mm_ld nx L st k mm_isD
def mgb_dload_n (k : Fin 4) (nx : Nat) (ax : List Nat) (X : mm_X) (rd : Nat → Option mm_C) (hl : Nat) (L : mm_L) (st : List Value) : Option mm_A := mm_ld nx L st k.val mm_isD
def mgb_istore (k : Nat) (nx : Nat) (ax : List Nat) (X : mm_X) (rd : Nat → Option mm_C) (hl : Nat) (L : mm_L) (st : List Value) : Option mm_A := mm_s1 nx L st k mm_isI
def mgb_istore_n (k : Fin 4) (nx : Nat) (ax : List Nat) (X : mm_X) (rd : Nat → Option mm_C) (hl : Nat) (L : mm_L) (st : List Value) : Option mm_A := mm_s1 nx L st k.val mm_isI
def mgb_astore (k : Nat) (nx : Nat) (ax : List Nat) (X : mm_X) (rd : Nat → Option mm_C) (hl : Nat) (L : mm_L) (st : List Value) : Option mm_A := mm_s1 nx L st k mm_isA
def mgb_astore_n (k : Fin 4) (nx : Nat) (ax : List Nat) (X : mm_X) (rd : Nat → Option mm_C) (hl : Nat) (L : mm_L) (st : List Value) : Option mm_A := mm_s1 nx L st k.val mm_isA
def mgb_lstore (k : Nat) (nx : Nat) (ax : List Nat) (X : mm_X) (rd : Nat → Option mm_C) (hl : Nat) (L : mm_L) (st : List Value) : Option mm_A := mm_s2 nx L st k mm_isL
def mgb_dstore (k : Nat) (nx : Nat) (ax : List Nat) (X : mm_X) (rd : Nat → Option mm_C) (hl : Nat) (L : mm_L) (st : List Value) : Option mm_A := mm_s2 nx L st k mm_isD
def mgb_iconst (n : Int) (nx : Nat) (ax : List Nat) (X : mm_X) (rd : Nat → Option mm_C) (hl : Nat) (L : mm_L) (st : List Value) : Option mm_A := mm_fI (Int32.ofInt n) fun z => mm_go nx L (.int z :: st)
def mgb_bipush (n : Int) (nx : Nat) (ax : List Nat) (X : mm_X) (rd : Nat → Option mm_C) (hl : Nat) (L : mm_L) (st : List Value) : Option mm_A := mm_fI (Int8.ofInt n).toInt32 fun z => mm_go nx L (.int z :: st)
def mgb_sipush (n : Int) (nx : Nat) (ax : List Nat) (X : mm_X) (rd : Nat → Option mm_C) (hl : Nat) (L : mm_L) (st : List Value) : Option mm_A := mm_fI (Int16.ofInt n).toInt32 fun z => mm_go nx L (.int z :: st)
def mgb_lconst (n : Fin 2) (nx : Nat) (ax : List Nat) (X : mm_X) (rd : Nat → Option mm_C) (hl : Nat) (L : mm_L) (st : List Value) : Option mm_A := mm_go nx L (.long (Int64.ofNat n.val) :: st)
def mgb_aconst_null (nx : Nat) (ax : List Nat) (X : mm_X) (rd : Nat → Option mm_C) (hl : Nat) (L : mm_L) (st : List Value) : Option mm_A := mm_go nx L (.null :: st)
def mgb_ldc (u0 : Nat) (nx : Nat) (ax : List Nat) (X : mm_X) (rd : Nat → Option mm_C) (hl : Nat) (L : mm_L) (st : List Value) : Option mm_A := match ax with
      | 0 :: c :: _ => mm_go nx L (.int (Int32.ofNat c) :: st)
      | 1 :: c :: _ => mm_go nx L (.ref c :: st)
      | _ => none
def mgb_ldc_w (u0 : Nat) (nx : Nat) (ax : List Nat) (X : mm_X) (rd : Nat → Option mm_C) (hl : Nat) (L : mm_L) (st : List Value) : Option mm_A := match ax with
      | 0 :: c :: _ => mm_go nx L (.int (Int32.ofNat c) :: st)
      | 1 :: c :: _ => mm_go nx L (.ref c :: st)
      | _ => none
def mgb_ldc2_w (u0 : Nat) (nx : Nat) (ax : List Nat) (X : mm_X) (rd : Nat → Option mm_C) (hl : Nat) (L : mm_L) (st : List Value) : Option mm_A := match ax with
      | c :: _ => mm_go nx L (.long (Int64.ofNat c) :: st)
      | _ => none
def mgb_iadd (nx : Nat) (ax : List Nat) (X : mm_X) (rd : Nat → Option mm_C) (hl : Nat) (L : mm_L) (st : List Value) : Option mm_A := mm_i2 nx L st (fun x y => x + y)
def mgb_isub (nx : Nat) (ax : List Nat) (X : mm_X) (rd : Nat → Option mm_C) (hl : Nat) (L : mm_L) (st : List Value) : Option mm_A := mm_i2 nx L st (fun x y => x - y)
def mgb_imul (nx : Nat) (ax : List Nat) (X : mm_X) (rd : Nat → Option mm_C) (hl : Nat) (L : mm_L) (st : List Value) : Option mm_A := mm_i2 nx L st (fun x y => x * y)
def mgb_iand (nx : Nat) (ax : List Nat) (X : mm_X) (rd : Nat → Option mm_C) (hl : Nat) (L : mm_L) (st : List Value) : Option mm_A := mm_i2 nx L st (fun x y => x &&& y)
def mgb_ior (nx : Nat) (ax : List Nat) (X : mm_X) (rd : Nat → Option mm_C) (hl : Nat) (L : mm_L) (st : List Value) : Option mm_A := mm_i2 nx L st (fun x y => x ||| y)
def mgb_ixor (nx : Nat) (ax : List Nat) (X : mm_X) (rd : Nat → Option mm_C) (hl : Nat) (L : mm_L) (st : List Value) : Option mm_A := mm_i2 nx L st (fun x y => x ^^^ y)
def mgb_ishl (nx : Nat) (ax : List Nat) (X : mm_X) (rd : Nat → Option mm_C) (hl : Nat) (L : mm_L) (st : List Value) : Option mm_A := mm_i2 nx L st (fun x y => x <<< (y &&& 31))
def mgb_ishr (nx : Nat) (ax : List Nat) (X : mm_X) (rd : Nat → Option mm_C) (hl : Nat) (L : mm_L) (st : List Value) : Option mm_A := mm_i2 nx L st (fun x y => x >>> (y &&& 31))
def mgb_iushr (nx : Nat) (ax : List Nat) (X : mm_X) (rd : Nat → Option mm_C) (hl : Nat) (L : mm_L) (st : List Value) : Option mm_A := mm_i2 nx L st (fun x y => (x.toUInt32 >>> (y.toUInt32 &&& Int32.toUInt32 31)).toInt32)
def mgb_idiv (nx : Nat) (ax : List Nat) (X : mm_X) (rd : Nat → Option mm_C) (hl : Nat) (L : mm_L) (st : List Value) : Option mm_A := match st with
      | .int y :: _ => match mm_eq y 0 with
        | true => none
        | false => mm_i2 nx L st (fun x y => x / y)
      | _ => none
def mgb_irem (nx : Nat) (ax : List Nat) (X : mm_X) (rd : Nat → Option mm_C) (hl : Nat) (L : mm_L) (st : List Value) : Option mm_A := match st with
      | .int y :: _ => match mm_eq y 0 with
        | true => none
        | false => mm_i2 nx L st (fun x y => x - x / y * y)
      | _ => none
def mgb_ineg (nx : Nat) (ax : List Nat) (X : mm_X) (rd : Nat → Option mm_C) (hl : Nat) (L : mm_L) (st : List Value) : Option mm_A := mm_i1 nx L st (fun x => -x)
def mgb_i2b (nx : Nat) (ax : List Nat) (X : mm_X) (rd : Nat → Option mm_C) (hl : Nat) (L : mm_L) (st : List Value) : Option mm_A := mm_i1 nx L st (fun x => x.toInt8.toInt32)
def mgb_i2c (nx : Nat) (ax : List Nat) (X : mm_X) (rd : Nat → Option mm_C) (hl : Nat) (L : mm_L) (st : List Value) : Option mm_A := mm_i1 nx L st (fun x => (x.toUInt32 % 65536).toInt32)
def mgb_i2l (nx : Nat) (ax : List Nat) (X : mm_X) (rd : Nat → Option mm_C) (hl : Nat) (L : mm_L) (st : List Value) : Option mm_A := match st with
      | .int x :: r => mm_fL x.toInt64 fun z => mm_go nx L (.long z :: r)
      | _ => none
def mgb_lcmp (nx : Nat) (ax : List Nat) (X : mm_X) (rd : Nat → Option mm_C) (hl : Nat) (L : mm_L) (st : List Value) : Option mm_A := match st with
      | .long y :: .long x :: r => mm_fI (mm_lcmp x y) fun z => mm_go nx L (.int z :: r)
      | _ => none
def mgb_i2f (nx : Nat) (ax : List Nat) (X : mm_X) (rd : Nat → Option mm_C) (hl : Nat) (L : mm_L) (st : List Value) : Option mm_A := match st with
      | .int x :: r => mm_go nx L (.float (FP.i2f x) :: r)
      | _ => none
def mgb_i2d (nx : Nat) (ax : List Nat) (X : mm_X) (rd : Nat → Option mm_C) (hl : Nat) (L : mm_L) (st : List Value) : Option mm_A := match st with
      | .int x :: r => mm_go nx L (.double (FP.i2d x) :: r)
      | _ => none
def mgb_fconst (x0 : Fin 3) (nx : Nat) (ax : List Nat) (X : mm_X) (rd : Nat → Option mm_C) (hl : Nat) (L : mm_L) (st : List Value) : Option mm_A := match x0 with
  | 0 => mm_go nx L (.float FP.fconst0 :: st)
  | _ => none
def mgb_dconst (x0 : Fin 2) (nx : Nat) (ax : List Nat) (X : mm_X) (rd : Nat → Option mm_C) (hl : Nat) (L : mm_L) (st : List Value) : Option mm_A := match x0 with
  | 0 => mm_go nx L (.double FP.dconst0 :: st)
  | _ => none
def mgb_fdiv (nx : Nat) (ax : List Nat) (X : mm_X) (rd : Nat → Option mm_C) (hl : Nat) (L : mm_L) (st : List Value) : Option mm_A := match st with
      | .float y :: .float x :: r => if FP.fdiv x y &&& 0x7fffffff ≤ 0x7f800000 then mm_go nx L (.float (FP.fdiv x y) :: r) else none
      | _ => none
def mgb_ddiv (nx : Nat) (ax : List Nat) (X : mm_X) (rd : Nat → Option mm_C) (hl : Nat) (L : mm_L) (st : List Value) : Option mm_A := match st with
      | .double y :: .double x :: r => if FP.ddiv x y &&& 0x7fffffffffffffff ≤ 0x7ff0000000000000 then mm_go nx L (.double (FP.ddiv x y) :: r) else none
      | _ => none
def mgb_f2d (nx : Nat) (ax : List Nat) (X : mm_X) (rd : Nat → Option mm_C) (hl : Nat) (L : mm_L) (st : List Value) : Option mm_A := match st with
      | .float x :: r => if FP.f2d x &&& 0x7fffffffffffffff ≤ 0x7ff0000000000000 then mm_go nx L (.double (FP.f2d x) :: r) else none
      | _ => none
def mgb_dcmp (op : CmpOp) (nx : Nat) (ax : List Nat) (X : mm_X) (rd : Nat → Option mm_C) (hl : Nat) (L : mm_L) (st : List Value) : Option mm_A := match st with
      | .double y :: .double x :: r => mm_go nx L (.int (Op.cmpValue (FP.dcmp x y) op) :: r)
      | _ => none
def mgb_dup (nx : Nat) (ax : List Nat) (X : mm_X) (rd : Nat → Option mm_C) (hl : Nat) (L : mm_L) (st : List Value) : Option mm_A := match st with
      | v :: r => if mm_cat2 v = true then none else mm_go nx L (v :: v :: r)
      | _ => none
def mgb_pop (nx : Nat) (ax : List Nat) (X : mm_X) (rd : Nat → Option mm_C) (hl : Nat) (L : mm_L) (st : List Value) : Option mm_A := match st with
      | v :: r => if mm_cat2 v = true then none else mm_go nx L r
      | _ => none
def mgb_dup_x1 (nx : Nat) (ax : List Nat) (X : mm_X) (rd : Nat → Option mm_C) (hl : Nat) (L : mm_L) (st : List Value) : Option mm_A := match st with
      | v :: w :: r => if mm_cat2 v = true ∨ mm_cat2 w = true then none else mm_go nx L (v :: w :: v :: r)
      | _ => none
def mgb_dup2 (nx : Nat) (ax : List Nat) (X : mm_X) (rd : Nat → Option mm_C) (hl : Nat) (L : mm_L) (st : List Value) : Option mm_A := match st with
      | v :: w :: r => if mm_cat2 v = true ∨ mm_cat2 w = true then none else mm_go nx L (v :: w :: v :: w :: r)
      | _ => none
def mgb_iinc (k : Nat) (n : Int) (nx : Nat) (ax : List Nat) (X : mm_X) (rd : Nat → Option mm_C) (hl : Nat) (L : mm_L) (st : List Value) : Option mm_A := match mm_get L k with
      | some (.int x) => mm_fI (x + Int32.ofInt n) fun z => match mm_set1 L k (.int z) with
        | some L' => mm_go nx L' st
        | none => none
      | _ => none
def mgb_ifCond (c : ClassFile.Cond) (u1 : Int) (nx : Nat) (ax : List Nat) (X : mm_X) (rd : Nat → Option mm_C) (hl : Nat) (L : mm_L) (st : List Value) : Option mm_A := match st with
      | .int x :: r => mm_br nx L ax r (mm_cnd c x 0)
      | _ => none
def mgb_if_icmp (c : ClassFile.Cond) (u1 : Int) (nx : Nat) (ax : List Nat) (X : mm_X) (rd : Nat → Option mm_C) (hl : Nat) (L : mm_L) (st : List Value) : Option mm_A := match st with
      | .int y :: .int x :: r => mm_br nx L ax r (mm_cnd c x y)
      | _ => none
def mgb_goto (u0 : Int) (nx : Nat) (ax : List Nat) (X : mm_X) (rd : Nat → Option mm_C) (hl : Nat) (L : mm_L) (st : List Value) : Option mm_A := match ax with
      | [t] => mm_go t L st
      | _ => none
def mgb_ifnull (u0 : Int) (nx : Nat) (ax : List Nat) (X : mm_X) (rd : Nat → Option mm_C) (hl : Nat) (L : mm_L) (st : List Value) : Option mm_A := match st with
      | .null :: r => mm_br nx L ax r true
      | .ref a :: r => match Nat.beq a 63 with
        | true => none
        | false => mm_br nx L ax r false
      | _ => none
def mgb_ifnonnull (u0 : Int) (nx : Nat) (ax : List Nat) (X : mm_X) (rd : Nat → Option mm_C) (hl : Nat) (L : mm_L) (st : List Value) : Option mm_A := match st with
      | .null :: r => mm_br nx L ax r false
      | .ref a :: r => match Nat.beq a 63 with
        | true => none
        | false => mm_br nx L ax r true
      | _ => none
def mgb_tableswitch (u0 : Int) (lo : Int) (u2 : Int) (offs : Array Int) (nx : Nat) (ax : List Nat) (X : mm_X) (rd : Nat → Option mm_C) (hl : Nat) (L : mm_L) (st : List Value) : Option mm_A := match st, ax with
      | .int x :: r, d :: ts => match lo with
        | .ofNat l0 => match Nat.ble (mm_un x) 2147483647 && (Nat.ble l0 (mm_un x) && Nat.ble (mm_un x - l0 + 1) ts.length) with
          | true => match ts[mm_un x - l0]? with
            | some t => mm_go t L r
            | none => none
          | false => mm_go d L r
        | .negSucc _ => none
      | _, _ => none
def mgb_iaload (nx : Nat) (ax : List Nat) (X : mm_X) (rd : Nat → Option mm_C) (hl : Nat) (L : mm_L) (st : List Value) : Option mm_A := match st with
      | .int i :: .ref a :: r => match Nat.beq a 0 with
        | true => match mm_in i X.2.1.1 with
          | true => match X.2.1.2 (mm_un i) with
            | some x => mm_go nx L (.int x :: r)
            | none => none
          | false => none
        | false => match mm_prim (rd a) 0 with
          | some (n, N) => match mm_in i n with
            | true => mm_fI (Int32.ofNat (mm_ag 32 N (mm_un i))) fun z => mm_go nx L (.int z :: r)
            | false => none
          | none => none
      | _ => none
def mgb_baload (nx : Nat) (ax : List Nat) (X : mm_X) (rd : Nat → Option mm_C) (hl : Nat) (L : mm_L) (st : List Value) : Option mm_A := match st with
      | .int i :: .ref a :: r => match mm_prim (rd a) 2 with
        | some (n, N) => match mm_in i n with
          | true => mm_fI (Int32.ofNat (mm_ag 32 N (mm_un i))) fun z => mm_go nx L (.int z :: r)
          | false => none
        | none => none
      | _ => none
def mgb_laload (nx : Nat) (ax : List Nat) (X : mm_X) (rd : Nat → Option mm_C) (hl : Nat) (L : mm_L) (st : List Value) : Option mm_A := match st with
      | .int i :: .ref a :: r => match mm_prim (rd a) 1 with
        | some (n, N) => match mm_in i n && Nat.ble 64 a with
          | true => mm_fL (Int64.ofNat (mm_ag 64 N (mm_un i))) fun z => mm_go nx L (.long z :: r)
          | false => none
        | none => none
      | _ => none
def mgb_aaload (nx : Nat) (ax : List Nat) (X : mm_X) (rd : Nat → Option mm_C) (hl : Nat) (L : mm_L) (st : List Value) : Option mm_A := match st with
      | .int i :: .ref a :: r => match Nat.ble 64 a with
        | true => match rd a with
          | some (.inr (.inl (t, rs))) => match mm_in i rs.length && (Nat.ble 3 t && Nat.ble t 4) with
            | true => match rs[mm_un i]? with
              | some (some q) => mm_go nx L (.ref q :: r)
              | some none => mm_go nx L (.null :: r)
              | none => none
            | false => none
          | _ => none
        | false => none
      | _ => none
def mgb_arraylength (nx : Nat) (ax : List Nat) (X : mm_X) (rd : Nat → Option mm_C) (hl : Nat) (L : mm_L) (st : List Value) : Option mm_A := match st with
      | .ref a :: r => match Nat.beq a 0 with
        | true => mm_go nx L (.int (Int32.ofNat X.2.1.1) :: r)
        | false => match rd a with
          | some (.inl (t, n, _)) => match Nat.ble t 4 with
            | true => mm_go nx L (.int (Int32.ofNat n) :: r)
            | false => none
          | some (.inr (.inl (t, rs))) => match Nat.ble t 4 && Nat.ble 64 a with
            | true => mm_go nx L (.int (Int32.ofNat rs.length) :: r)
            | false => none
          | _ => none
      | _ => none
def mgb_iastore (nx : Nat) (ax : List Nat) (X : mm_X) (rd : Nat → Option mm_C) (hl : Nat) (L : mm_L) (st : List Value) : Option mm_A := match st with
      | .int x :: .int i :: .ref a :: r => match mm_prim (rd a) 0 with
        | some (n, N) => match mm_in i n with
          | true => mm_fN (mm_as 32 N (mm_un i) (mm_un x)) fun M => mm_wr nx L r a (.inl (0, n, M))
          | false => none
        | none => none
      | _ => none
def mgb_bastore (nx : Nat) (ax : List Nat) (X : mm_X) (rd : Nat → Option mm_C) (hl : Nat) (L : mm_L) (st : List Value) : Option mm_A := match st with
      | .int x :: .int i :: .ref a :: r => match mm_prim (rd a) 2 with
        | some (n, N) => match mm_in i n with
          | true => mm_fN (mm_as 32 N (mm_un i) (mm_un x.toInt8.toInt32)) fun M => mm_wr nx L r a (.inl (2, n, M))
          | false => none
        | none => none
      | _ => none
def mgb_lastore (nx : Nat) (ax : List Nat) (X : mm_X) (rd : Nat → Option mm_C) (hl : Nat) (L : mm_L) (st : List Value) : Option mm_A := match st with
      | .long x :: .int i :: .ref a :: r => match mm_prim (rd a) 1 with
        | some (n, N) => match mm_in i n with
          | true => mm_fN (mm_as 64 N (mm_un i) x.toUInt64.toNat) fun M => mm_wr nx L r a (.inl (1, n, M))
          | false => none
        | none => none
      | _ => none
def mgb_aastore (nx : Nat) (ax : List Nat) (X : mm_X) (rd : Nat → Option mm_C) (hl : Nat) (L : mm_L) (st : List Value) : Option mm_A := match st with
      | .ref v :: .int i :: .ref a :: r => match rd a with
        | some (.inr (.inl (t, rs))) => match mm_in i rs.length && (Nat.ble 64 a && (Nat.ble 64 v && ((Nat.beq t 3 && mg_recv rd (some (.ref v)) 12) || (Nat.beq t 4 && mg_recv rd (some (.ref v)) 8)))) with
          | true => mm_wr nx L r a (.inr (.inl (t, rs.set (mm_un i) (some v))))
          | false => none
        | _ => none
      | _ => none
def mgb_getfield (u0 : Nat) (nx : Nat) (ax : List Nat) (X : mm_X) (rd : Nat → Option mm_C) (hl : Nat) (L : mm_L) (st : List Value) : Option mm_A := match st, ax with
      | .ref a :: r, _ :: ci :: k :: _ => match mm_obj (rd a) ci with
        | some fs => match fs[k]? with
          | some v => mm_go nx L (v :: r)
          | none => none
        | none => none
      | _, _ => none
def mgb_putfield (u0 : Nat) (nx : Nat) (ax : List Nat) (X : mm_X) (rd : Nat → Option mm_C) (hl : Nat) (L : mm_L) (st : List Value) : Option mm_A := match st, ax with
      | v :: .ref a :: r, _ :: ci :: k :: _ => match mm_obj (rd a) ci with
        | some fs => match fs[k]? with
          | some _ => match (X.2.2.2 ci)[k]? with
            | some ty => match mm_fit ty v with
              | true => mm_wr nx L r a (.inr (.inr (ci, fs.set k v)))
              | false => none
            | none => none
          | none => none
        | none => none
      | _, _ => none
def mgb_getstatic (u0 : Nat) (nx : Nat) (ax : List Nat) (X : mm_X) (rd : Nat → Option mm_C) (hl : Nat) (L : mm_L) (st : List Value) : Option mm_A := match ax with
      | _ :: k :: _ => match X.2.2.1 k with
        | some v => mm_go nx L (v :: st)
        | none => none
      | _ => none
def mgb_new (u0 : Nat) (nx : Nat) (ax : List Nat) (X : mm_X) (rd : Nat → Option mm_C) (hl : Nat) (L : mm_L) (st : List Value) : Option mm_A := match ax with
      | 0 :: ci :: _ => some (.inl (nx, L, .ref (64 + hl) :: st, some (.inr (.inr (.inr (ci, (X.2.2.2 ci).map mm_dflt))))))
      | 1 :: ci :: _ => match Nat.ble st.length 4 with
        | true => some (.inr (.inr (.inr ci)))
        | false => none
      | _ => none
def mgb_newarray (u0 : ArrayType) (nx : Nat) (ax : List Nat) (X : mm_X) (rd : Nat → Option mm_C) (hl : Nat) (L : mm_L) (st : List Value) : Option mm_A := match st, ax with
      | .int n :: r, [t] => match Nat.ble (mm_un n) 1000000 with
        | true => some (.inl (nx, L, .ref (64 + hl) :: r, some (.inr (.inl (t, mm_un n, 0)))))
        | false => none
      | _, _ => none
def mgb_anewarray (u0 : Nat) (nx : Nat) (ax : List Nat) (X : mm_X) (rd : Nat → Option mm_C) (hl : Nat) (L : mm_L) (st : List Value) : Option mm_A := match st, ax with
      | .int n :: r, t :: _ => match Nat.ble (mm_un n) 1000000 with
        | true => some (.inl (nx, L, .ref (64 + hl) :: r, some (.inr (.inr (.inl (t, List.replicate (mm_un n) none))))))
        | false => none
      | _, _ => none
def mgb_invokevirtual (u0 : Nat) (nx : Nat) (ax : List Nat) (X : mm_X) (rd : Nat → Option mm_C) (hl : Nat) (L : mm_L) (st : List Value) : Option mm_A := mg_call rd nx L st ax
def mgb_invokestatic (u0 : Nat) (nx : Nat) (ax : List Nat) (X : mm_X) (rd : Nat → Option mm_C) (hl : Nat) (L : mm_L) (st : List Value) : Option mm_A := match ax with
      | 10 :: _ => mg_copy rd nx L st
      | 11 :: _ => mm_math nx L st true
      | 12 :: _ => mm_math nx L st false
      | _ => mg_call rd nx L st ax
def mgb_invokespecial (u0 : Nat) (nx : Nat) (ax : List Nat) (X : mm_X) (rd : Nat → Option mm_C) (hl : Nat) (L : mm_L) (st : List Value) : Option mm_A := match ax with
      | 9 :: _ => match st with
        | .ref a :: r => match Nat.ble 64 a && Nat.ble r.length 4 with
          | true => mm_go nx L r
          | false => none
        | _ => none
      | _ => mg_call rd nx L st ax
def mgb_ireturn (nx : Nat) (ax : List Nat) (X : mm_X) (rd : Nat → Option mm_C) (hl : Nat) (L : mm_L) (st : List Value) : Option mm_A := some (.inr (.inr (.inl ())))
def mgb_areturn (nx : Nat) (ax : List Nat) (X : mm_X) (rd : Nat → Option mm_C) (hl : Nat) (L : mm_L) (st : List Value) : Option mm_A := some (.inr (.inr (.inl ())))
def mgb_freturn (nx : Nat) (ax : List Nat) (X : mm_X) (rd : Nat → Option mm_C) (hl : Nat) (L : mm_L) (st : List Value) : Option mm_A := some (.inr (.inr (.inl ())))
def mgb_dreturn (nx : Nat) (ax : List Nat) (X : mm_X) (rd : Nat → Option mm_C) (hl : Nat) (L : mm_L) (st : List Value) : Option mm_A := some (.inr (.inr (.inl ())))
def mgb_return_ (nx : Nat) (ax : List Nat) (X : mm_X) (rd : Nat → Option mm_C) (hl : Nat) (L : mm_L) (st : List Value) : Option mm_A := some (.inr (.inr (.inl ())))
def mgo_ast (k nx : Nat) (X : mm_X) (rd : Nat → Option mm_C) (hl : Nat) (L : mm_L) (st : List Value) (fb : List Value → Option mm_A) : Option mm_A := match st with
  | .retAddr _ :: .int i :: .ref a :: r => match Nat.ble 64 a with
    | false => none
    | true => match rd a with
      | some (.inl (t, n, _)) => match (Nat.beq t k || Nat.beq t (k + 10)) && mm_in i n with
        | true => some (.inl (nx, L, r, some (.inl (a - 64, .inl (k + 10, n, 0)))))
        | false => none
      | _ => none
  | st => fb st
def mgo_iload (k : Nat) (nx : Nat) (ax : List Nat) (E : my_E) (X : mm_X) (rd : Nat → Option mm_C) (hl : Nat) (L : mm_L) (st : List Value) : Option mm_A := mo_ild nx L st k (mgb_iload k nx ax X rd hl L st)
def mgo_iload_n (k : Fin 4) (nx : Nat) (ax : List Nat) (E : my_E) (X : mm_X) (rd : Nat → Option mm_C) (hl : Nat) (L : mm_L) (st : List Value) : Option mm_A := mo_ild nx L st k.val (mgb_iload_n k nx ax X rd hl L st)
def mgo_istore (k : Nat) (nx : Nat) (ax : List Nat) (E : my_E) (X : mm_X) (rd : Nat → Option mm_C) (hl : Nat) (L : mm_L) (st : List Value) : Option mm_A := mo_ist nx L st k (mgb_istore k nx ax X rd hl L)
def mgo_istore_n (k : Fin 4) (nx : Nat) (ax : List Nat) (E : my_E) (X : mm_X) (rd : Nat → Option mm_C) (hl : Nat) (L : mm_L) (st : List Value) : Option mm_A := mo_ist nx L st k.val (mgb_istore_n k nx ax X rd hl L)
def mgo_lload (k : Nat) (nx : Nat) (ax : List Nat) (E : my_E) (X : mm_X) (rd : Nat → Option mm_C) (hl : Nat) (L : mm_L) (st : List Value) : Option mm_A := mo_lld E nx L st k (mgb_lload k nx ax X rd hl L st)
def mgo_lload_n (k : Fin 4) (nx : Nat) (ax : List Nat) (E : my_E) (X : mm_X) (rd : Nat → Option mm_C) (hl : Nat) (L : mm_L) (st : List Value) : Option mm_A := mo_lld E nx L st k.val (mgb_lload_n k nx ax X rd hl L st)
def mgo_iaload (nx : Nat) (ax : List Nat) (E : my_E) (X : mm_X) (rd : Nat → Option mm_C) (hl : Nat) (L : mm_L) (st : List Value) : Option mm_A := match st with
      | .int i :: .ref a :: r => match Nat.beq a 0 with
        | true => match E.2.2.2.2 with
          | some n => match mm_in i n with
            | true => match E.2.2.2.1[mm_un i]? with
              | some v => mm_go nx L (v :: r)
              | none => none
            | false => none
          | none => none
        | false => (mgb_iaload nx ax X rd hl L (.int i :: .ref a :: r))
      | _ => none
def mgo_arraylength (nx : Nat) (ax : List Nat) (E : my_E) (X : mm_X) (rd : Nat → Option mm_C) (hl : Nat) (L : mm_L) (st : List Value) : Option mm_A := match st with
      | .ref a :: r => match Nat.beq a 0 with
        | true => match E.2.2.2.2 with
          | some n => mm_go nx L (.int (Int32.ofNat n) :: r)
          | none => none
        | false => match my_tln (rd a) with
          | some n => mm_go nx L (.int (Int32.ofNat n) :: r)
          | none => (mgb_arraylength nx ax X rd hl L (.ref a :: r))
      | _ => none
def mgo_ifCond (c : ClassFile.Cond) (d : Int) (nx : Nat) (ax : List Nat) (E : my_E) (X : mm_X) (rd : Nat → Option mm_C) (hl : Nat) (L : mm_L) (st : List Value) : Option mm_A := match st with
      | .retAddr t :: r => my_brc nx L ax r (my_cnd c (my_rg E (.retAddr t)) (my_rg E (.int 0)))
      | st => (mgb_ifCond c d nx ax X rd hl L st)
def mgo_if_icmp (c : ClassFile.Cond) (d : Int) (nx : Nat) (ax : List Nat) (E : my_E) (X : mm_X) (rd : Nat → Option mm_C) (hl : Nat) (L : mm_L) (st : List Value) : Option mm_A := match st with
      | y :: x :: r => match my_tk y || my_tk x with
        | true => my_brc nx L ax r (my_cnd c (my_rg E x) (my_rg E y))
        | false => (mgb_if_icmp c d nx ax X rd hl L (y :: x :: r))
      | _ => none
def mgo_iand (nx : Nat) (ax : List Nat) (E : my_E) (X : mm_X) (rd : Nat → Option mm_C) (hl : Nat) (L : mm_L) (st : List Value) : Option mm_A := match st with
      | .int c :: .retAddr t :: r => match t with
        | 0 => mm_go nx L (.retAddr 0 :: r)
        | k + 1 => match my_ru E.2.2.1 k (mm_un c) with
          | some v => mm_go nx L (v :: r)
          | none => mm_go nx L (.retAddr 0 :: r)
      | st => mo_i2t nx L st (mgb_iand nx ax X rd hl L)
def mgo_iadd (nx : Nat) (ax : List Nat) (E : my_E) (X : mm_X) (rd : Nat → Option mm_C) (hl : Nat) (L : mm_L) (st : List Value) : Option mm_A := mo_i2t nx L st (mgb_iadd nx ax X rd hl L)
def mgo_isub (nx : Nat) (ax : List Nat) (E : my_E) (X : mm_X) (rd : Nat → Option mm_C) (hl : Nat) (L : mm_L) (st : List Value) : Option mm_A := mo_i2t nx L st (mgb_isub nx ax X rd hl L)
def mgo_ior (nx : Nat) (ax : List Nat) (E : my_E) (X : mm_X) (rd : Nat → Option mm_C) (hl : Nat) (L : mm_L) (st : List Value) : Option mm_A := mo_i2t nx L st (mgb_ior nx ax X rd hl L)
def mgo_ixor (nx : Nat) (ax : List Nat) (E : my_E) (X : mm_X) (rd : Nat → Option mm_C) (hl : Nat) (L : mm_L) (st : List Value) : Option mm_A := mo_i2t nx L st (mgb_ixor nx ax X rd hl L)
def mgo_ishl (nx : Nat) (ax : List Nat) (E : my_E) (X : mm_X) (rd : Nat → Option mm_C) (hl : Nat) (L : mm_L) (st : List Value) : Option mm_A := mo_i2t nx L st (mgb_ishl nx ax X rd hl L)
def mgo_ishr (nx : Nat) (ax : List Nat) (E : my_E) (X : mm_X) (rd : Nat → Option mm_C) (hl : Nat) (L : mm_L) (st : List Value) : Option mm_A := mo_i2t nx L st (mgb_ishr nx ax X rd hl L)
def mgo_iushr (nx : Nat) (ax : List Nat) (E : my_E) (X : mm_X) (rd : Nat → Option mm_C) (hl : Nat) (L : mm_L) (st : List Value) : Option mm_A := mo_i2t nx L st (mgb_iushr nx ax X rd hl L)
def mgo_i2b (nx : Nat) (ax : List Nat) (E : my_E) (X : mm_X) (rd : Nat → Option mm_C) (hl : Nat) (L : mm_L) (st : List Value) : Option mm_A := mo_i1t nx L st (mgb_i2b nx ax X rd hl L)
def mgo_ineg (nx : Nat) (ax : List Nat) (E : my_E) (X : mm_X) (rd : Nat → Option mm_C) (hl : Nat) (L : mm_L) (st : List Value) : Option mm_A := mo_i1t nx L st (mgb_ineg nx ax X rd hl L)
def mgo_i2l (nx : Nat) (ax : List Nat) (E : my_E) (X : mm_X) (rd : Nat → Option mm_C) (hl : Nat) (L : mm_L) (st : List Value) : Option mm_A := match st with
      | .retAddr t :: r => match t with
        | 0 => none
        | k + 1 => match E.1 && Nat.ble k 1000 with
          | true => mm_go nx L (.double (UInt64.ofNat k) :: r)
          | false => none
      | st => (mgb_i2l nx ax X rd hl L st)
def mgo_lcmp (nx : Nat) (ax : List Nat) (E : my_E) (X : mm_X) (rd : Nat → Option mm_C) (hl : Nat) (L : mm_L) (st : List Value) : Option mm_A := match st with
      | y :: x :: r => match my_dk y || my_dk x with
        | true => match my_lt (my_lrg E x) (my_lrg E y) with
          | some true => mm_go nx L (.int (-1) :: r)
          | some false => match my_eq (my_lrg E x) (my_lrg E y) with
            | some true => mm_go nx L (.int 0 :: r)
            | some false => mm_go nx L (.int 1 :: r)
            | none => none
          | none => none
        | false => (mgb_lcmp nx ax X rd hl L (y :: x :: r))
      | _ => none
def mgo_tableswitch (a : Int) (lo : Int) (b : Int) (offs : Array Int) (nx : Nat) (ax : List Nat) (E : my_E) (X : mm_X) (rd : Nat → Option mm_C) (hl : Nat) (L : mm_L) (st : List Value) : Option mm_A := match st with
      | .retAddr t :: r => match ax, lo with
        | d :: ts, .ofNat l0 => match my_rg E (.retAddr t) with
          | some q => match Nat.ble (q.2 + 1) (2147483648 + l0) || Nat.ble (2147483648 + l0 + ts.length) q.1 with
            | true => mm_go d L r
            | false => none
          | none => none
        | _, _ => none
      | st => (mgb_tableswitch a lo b offs nx ax X rd hl L st)
def mgo_iastore (nx : Nat) (ax : List Nat) (E : my_E) (X : mm_X) (rd : Nat → Option mm_C) (hl : Nat) (L : mm_L) (st : List Value) : Option mm_A := mgo_ast 0 nx X rd hl L st (mgb_iastore nx ax X rd hl L)
def mgo_bastore (nx : Nat) (ax : List Nat) (E : my_E) (X : mm_X) (rd : Nat → Option mm_C) (hl : Nat) (L : mm_L) (st : List Value) : Option mm_A := mgo_ast 2 nx X rd hl L st (mgb_bastore nx ax X rd hl L)
def mgo_getfield (x : Nat) (nx : Nat) (ax : List Nat) (E : my_E) (X : mm_X) (rd : Nat → Option mm_C) (hl : Nat) (L : mm_L) (st : List Value) : Option mm_A := my_pck ((mgb_getfield x nx ax X rd hl L st))
def mgo_getstatic (x : Nat) (nx : Nat) (ax : List Nat) (E : my_E) (X : mm_X) (rd : Nat → Option mm_C) (hl : Nat) (L : mm_L) (st : List Value) : Option mm_A := my_pck ((mgb_getstatic x nx ax X rd hl L st))
def mgo_newarray (x : ArrayType) (nx : Nat) (ax : List Nat) (E : my_E) (X : mm_X) (rd : Nat → Option mm_C) (hl : Nat) (L : mm_L) (st : List Value) : Option mm_A := match ax with
      | [t] => match Nat.ble t 9 with
        | true => (mgb_newarray x nx [t] X rd hl L st)
        | false => none
      | _ => none
def mgo_dload (k : Nat) (nx : Nat) (ax : List Nat) (E : my_E) (X : mm_X) (rd : Nat → Option mm_C) (hl : Nat) (L : mm_L) (st : List Value) : Option mm_A := mo_dbl E (mgb_dload k nx ax X rd hl L st)
def mgo_dload_n (k : Fin 4) (nx : Nat) (ax : List Nat) (E : my_E) (X : mm_X) (rd : Nat → Option mm_C) (hl : Nat) (L : mm_L) (st : List Value) : Option mm_A := mo_dbl E (mgb_dload_n k nx ax X rd hl L st)
def mgo_dstore (k : Nat) (nx : Nat) (ax : List Nat) (E : my_E) (X : mm_X) (rd : Nat → Option mm_C) (hl : Nat) (L : mm_L) (st : List Value) : Option mm_A := mo_dbl E (mgb_dstore k nx ax X rd hl L st)
def mgo_dconst (k : Fin 2) (nx : Nat) (ax : List Nat) (E : my_E) (X : mm_X) (rd : Nat → Option mm_C) (hl : Nat) (L : mm_L) (st : List Value) : Option mm_A := mo_dbl E (mgb_dconst k nx ax X rd hl L st)
def mgo_i2d (nx : Nat) (ax : List Nat) (E : my_E) (X : mm_X) (rd : Nat → Option mm_C) (hl : Nat) (L : mm_L) (st : List Value) : Option mm_A := mo_dbl E (mgb_i2d nx ax X rd hl L st)
def mgo_f2d (nx : Nat) (ax : List Nat) (E : my_E) (X : mm_X) (rd : Nat → Option mm_C) (hl : Nat) (L : mm_L) (st : List Value) : Option mm_A := mo_dbl E (mgb_f2d nx ax X rd hl L st)
def mgo_ddiv (nx : Nat) (ax : List Nat) (E : my_E) (X : mm_X) (rd : Nat → Option mm_C) (hl : Nat) (L : mm_L) (st : List Value) : Option mm_A := mo_dbl E (mgb_ddiv nx ax X rd hl L st)
def mgo_dcmp (k : CmpOp) (nx : Nat) (ax : List Nat) (E : my_E) (X : mm_X) (rd : Nat → Option mm_C) (hl : Nat) (L : mm_L) (st : List Value) : Option mm_A := mo_dbl E (mgb_dcmp k nx ax X rd hl L st)
def mgo_aload (a0 : Nat) (nx : Nat) (ax : List Nat) (_ : my_E) (X : mm_X) (rd : Nat → Option mm_C) (hl : Nat) (L : mm_L) (st : List Value) : Option mm_A := mgb_aload a0 nx ax X rd hl L st
def mgo_aload_n (a0 : Fin 4) (nx : Nat) (ax : List Nat) (_ : my_E) (X : mm_X) (rd : Nat → Option mm_C) (hl : Nat) (L : mm_L) (st : List Value) : Option mm_A := mgb_aload_n a0 nx ax X rd hl L st
def mgo_astore (a0 : Nat) (nx : Nat) (ax : List Nat) (_ : my_E) (X : mm_X) (rd : Nat → Option mm_C) (hl : Nat) (L : mm_L) (st : List Value) : Option mm_A := mgb_astore a0 nx ax X rd hl L st
def mgo_astore_n (a0 : Fin 4) (nx : Nat) (ax : List Nat) (_ : my_E) (X : mm_X) (rd : Nat → Option mm_C) (hl : Nat) (L : mm_L) (st : List Value) : Option mm_A := mgb_astore_n a0 nx ax X rd hl L st
def mgo_lstore (a0 : Nat) (nx : Nat) (ax : List Nat) (_ : my_E) (X : mm_X) (rd : Nat → Option mm_C) (hl : Nat) (L : mm_L) (st : List Value) : Option mm_A := mgb_lstore a0 nx ax X rd hl L st
def mgo_iconst (a0 : Int) (nx : Nat) (ax : List Nat) (_ : my_E) (X : mm_X) (rd : Nat → Option mm_C) (hl : Nat) (L : mm_L) (st : List Value) : Option mm_A := mgb_iconst a0 nx ax X rd hl L st
def mgo_bipush (a0 : Int) (nx : Nat) (ax : List Nat) (_ : my_E) (X : mm_X) (rd : Nat → Option mm_C) (hl : Nat) (L : mm_L) (st : List Value) : Option mm_A := mgb_bipush a0 nx ax X rd hl L st
def mgo_sipush (a0 : Int) (nx : Nat) (ax : List Nat) (_ : my_E) (X : mm_X) (rd : Nat → Option mm_C) (hl : Nat) (L : mm_L) (st : List Value) : Option mm_A := mgb_sipush a0 nx ax X rd hl L st
def mgo_lconst (a0 : Fin 2) (nx : Nat) (ax : List Nat) (_ : my_E) (X : mm_X) (rd : Nat → Option mm_C) (hl : Nat) (L : mm_L) (st : List Value) : Option mm_A := mgb_lconst a0 nx ax X rd hl L st
def mgo_aconst_null (nx : Nat) (ax : List Nat) (_ : my_E) (X : mm_X) (rd : Nat → Option mm_C) (hl : Nat) (L : mm_L) (st : List Value) : Option mm_A := mgb_aconst_null nx ax X rd hl L st
def mgo_ldc (a0 : Nat) (nx : Nat) (ax : List Nat) (_ : my_E) (X : mm_X) (rd : Nat → Option mm_C) (hl : Nat) (L : mm_L) (st : List Value) : Option mm_A := mgb_ldc a0 nx ax X rd hl L st
def mgo_ldc_w (a0 : Nat) (nx : Nat) (ax : List Nat) (_ : my_E) (X : mm_X) (rd : Nat → Option mm_C) (hl : Nat) (L : mm_L) (st : List Value) : Option mm_A := mgb_ldc_w a0 nx ax X rd hl L st
def mgo_ldc2_w (a0 : Nat) (nx : Nat) (ax : List Nat) (_ : my_E) (X : mm_X) (rd : Nat → Option mm_C) (hl : Nat) (L : mm_L) (st : List Value) : Option mm_A := mgb_ldc2_w a0 nx ax X rd hl L st
def mgo_imul (nx : Nat) (ax : List Nat) (_ : my_E) (X : mm_X) (rd : Nat → Option mm_C) (hl : Nat) (L : mm_L) (st : List Value) : Option mm_A := mgb_imul nx ax X rd hl L st
def mgo_idiv (nx : Nat) (ax : List Nat) (_ : my_E) (X : mm_X) (rd : Nat → Option mm_C) (hl : Nat) (L : mm_L) (st : List Value) : Option mm_A := mgb_idiv nx ax X rd hl L st
def mgo_irem (nx : Nat) (ax : List Nat) (_ : my_E) (X : mm_X) (rd : Nat → Option mm_C) (hl : Nat) (L : mm_L) (st : List Value) : Option mm_A := mgb_irem nx ax X rd hl L st
def mgo_i2c (nx : Nat) (ax : List Nat) (_ : my_E) (X : mm_X) (rd : Nat → Option mm_C) (hl : Nat) (L : mm_L) (st : List Value) : Option mm_A := mgb_i2c nx ax X rd hl L st
def mgo_i2f (nx : Nat) (ax : List Nat) (_ : my_E) (X : mm_X) (rd : Nat → Option mm_C) (hl : Nat) (L : mm_L) (st : List Value) : Option mm_A := mgb_i2f nx ax X rd hl L st
def mgo_fconst (a0 : Fin 3) (nx : Nat) (ax : List Nat) (_ : my_E) (X : mm_X) (rd : Nat → Option mm_C) (hl : Nat) (L : mm_L) (st : List Value) : Option mm_A := mgb_fconst a0 nx ax X rd hl L st
def mgo_fdiv (nx : Nat) (ax : List Nat) (_ : my_E) (X : mm_X) (rd : Nat → Option mm_C) (hl : Nat) (L : mm_L) (st : List Value) : Option mm_A := mgb_fdiv nx ax X rd hl L st
def mgo_dup (nx : Nat) (ax : List Nat) (_ : my_E) (X : mm_X) (rd : Nat → Option mm_C) (hl : Nat) (L : mm_L) (st : List Value) : Option mm_A := mgb_dup nx ax X rd hl L st
def mgo_pop (nx : Nat) (ax : List Nat) (_ : my_E) (X : mm_X) (rd : Nat → Option mm_C) (hl : Nat) (L : mm_L) (st : List Value) : Option mm_A := mgb_pop nx ax X rd hl L st
def mgo_dup_x1 (nx : Nat) (ax : List Nat) (_ : my_E) (X : mm_X) (rd : Nat → Option mm_C) (hl : Nat) (L : mm_L) (st : List Value) : Option mm_A := mgb_dup_x1 nx ax X rd hl L st
def mgo_dup2 (nx : Nat) (ax : List Nat) (_ : my_E) (X : mm_X) (rd : Nat → Option mm_C) (hl : Nat) (L : mm_L) (st : List Value) : Option mm_A := mgb_dup2 nx ax X rd hl L st
def mgo_iinc (a0 : Nat) (a1 : Int) (nx : Nat) (ax : List Nat) (_ : my_E) (X : mm_X) (rd : Nat → Option mm_C) (hl : Nat) (L : mm_L) (st : List Value) : Option mm_A := mgb_iinc a0 a1 nx ax X rd hl L st
def mgo_goto (a0 : Int) (nx : Nat) (ax : List Nat) (_ : my_E) (X : mm_X) (rd : Nat → Option mm_C) (hl : Nat) (L : mm_L) (st : List Value) : Option mm_A := mgb_goto a0 nx ax X rd hl L st
def mgo_ifnull (a0 : Int) (nx : Nat) (ax : List Nat) (_ : my_E) (X : mm_X) (rd : Nat → Option mm_C) (hl : Nat) (L : mm_L) (st : List Value) : Option mm_A := mgb_ifnull a0 nx ax X rd hl L st
def mgo_ifnonnull (a0 : Int) (nx : Nat) (ax : List Nat) (_ : my_E) (X : mm_X) (rd : Nat → Option mm_C) (hl : Nat) (L : mm_L) (st : List Value) : Option mm_A := mgb_ifnonnull a0 nx ax X rd hl L st
def mgo_baload (nx : Nat) (ax : List Nat) (_ : my_E) (X : mm_X) (rd : Nat → Option mm_C) (hl : Nat) (L : mm_L) (st : List Value) : Option mm_A := mgb_baload nx ax X rd hl L st
def mgo_laload (nx : Nat) (ax : List Nat) (_ : my_E) (X : mm_X) (rd : Nat → Option mm_C) (hl : Nat) (L : mm_L) (st : List Value) : Option mm_A := mgb_laload nx ax X rd hl L st
def mgo_aaload (nx : Nat) (ax : List Nat) (_ : my_E) (X : mm_X) (rd : Nat → Option mm_C) (hl : Nat) (L : mm_L) (st : List Value) : Option mm_A := mgb_aaload nx ax X rd hl L st
def mgo_lastore (nx : Nat) (ax : List Nat) (_ : my_E) (X : mm_X) (rd : Nat → Option mm_C) (hl : Nat) (L : mm_L) (st : List Value) : Option mm_A := mgb_lastore nx ax X rd hl L st
def mgo_aastore (nx : Nat) (ax : List Nat) (_ : my_E) (X : mm_X) (rd : Nat → Option mm_C) (hl : Nat) (L : mm_L) (st : List Value) : Option mm_A := mgb_aastore nx ax X rd hl L st
def mgo_putfield (a0 : Nat) (nx : Nat) (ax : List Nat) (_ : my_E) (X : mm_X) (rd : Nat → Option mm_C) (hl : Nat) (L : mm_L) (st : List Value) : Option mm_A := mgb_putfield a0 nx ax X rd hl L st
def mgo_new (a0 : Nat) (nx : Nat) (ax : List Nat) (_ : my_E) (X : mm_X) (rd : Nat → Option mm_C) (hl : Nat) (L : mm_L) (st : List Value) : Option mm_A := mgb_new a0 nx ax X rd hl L st
def mgo_anewarray (a0 : Nat) (nx : Nat) (ax : List Nat) (_ : my_E) (X : mm_X) (rd : Nat → Option mm_C) (hl : Nat) (L : mm_L) (st : List Value) : Option mm_A := mgb_anewarray a0 nx ax X rd hl L st
def mgo_invokevirtual (a0 : Nat) (nx : Nat) (ax : List Nat) (_ : my_E) (X : mm_X) (rd : Nat → Option mm_C) (hl : Nat) (L : mm_L) (st : List Value) : Option mm_A := mgb_invokevirtual a0 nx ax X rd hl L st
def mgo_invokestatic (a0 : Nat) (nx : Nat) (ax : List Nat) (_ : my_E) (X : mm_X) (rd : Nat → Option mm_C) (hl : Nat) (L : mm_L) (st : List Value) : Option mm_A := mgb_invokestatic a0 nx ax X rd hl L st
def mgo_invokespecial (a0 : Nat) (nx : Nat) (ax : List Nat) (_ : my_E) (X : mm_X) (rd : Nat → Option mm_C) (hl : Nat) (L : mm_L) (st : List Value) : Option mm_A := mgb_invokespecial a0 nx ax X rd hl L st
def mgo_ireturn (nx : Nat) (ax : List Nat) (_ : my_E) (X : mm_X) (rd : Nat → Option mm_C) (hl : Nat) (L : mm_L) (st : List Value) : Option mm_A := mgb_ireturn nx ax X rd hl L st
def mgo_areturn (nx : Nat) (ax : List Nat) (_ : my_E) (X : mm_X) (rd : Nat → Option mm_C) (hl : Nat) (L : mm_L) (st : List Value) : Option mm_A := mgb_areturn nx ax X rd hl L st
def mgo_freturn (nx : Nat) (ax : List Nat) (_ : my_E) (X : mm_X) (rd : Nat → Option mm_C) (hl : Nat) (L : mm_L) (st : List Value) : Option mm_A := mgb_freturn nx ax X rd hl L st
def mgo_dreturn (nx : Nat) (ax : List Nat) (_ : my_E) (X : mm_X) (rd : Nat → Option mm_C) (hl : Nat) (L : mm_L) (st : List Value) : Option mm_A := mgb_dreturn nx ax X rd hl L st
def mgo_return_ (nx : Nat) (ax : List Nat) (_ : my_E) (X : mm_X) (rd : Nat → Option mm_C) (hl : Nat) (L : mm_L) (st : List Value) : Option mm_A := mgb_return_ nx ax X rd hl L st
def mgo_tab (mi : mm_I) : Option (my_E → mm_X → (Nat → Option mm_C) → Nat → mm_L → List Value → Option mm_A) := match mi with
  | (_, i, nx, ax) => match i with
    | .aaload => some (mgo_aaload nx ax)
    | .aastore => some (mgo_aastore nx ax)
    | .aconst_null => some (mgo_aconst_null nx ax)
    | .aload a0 => some (mgo_aload a0 nx ax)
    | .aload_n a0 => some (mgo_aload_n a0 nx ax)
    | .anewarray a0 => some (mgo_anewarray a0 nx ax)
    | .areturn => some (mgo_areturn nx ax)
    | .arraylength => some (mgo_arraylength nx ax)
    | .astore a0 => some (mgo_astore a0 nx ax)
    | .astore_n a0 => some (mgo_astore_n a0 nx ax)
    | .baload => some (mgo_baload nx ax)
    | .bastore => some (mgo_bastore nx ax)
    | .bipush a0 => some (mgo_bipush a0 nx ax)
    | .dcmp a0 => some (mgo_dcmp a0 nx ax)
    | .dconst a0 => some (mgo_dconst a0 nx ax)
    | .ddiv => some (mgo_ddiv nx ax)
    | .dload a0 => some (mgo_dload a0 nx ax)
    | .dload_n a0 => some (mgo_dload_n a0 nx ax)
    | .dreturn => some (mgo_dreturn nx ax)
    | .dstore a0 => some (mgo_dstore a0 nx ax)
    | .dup => some (mgo_dup nx ax)
    | .dup_x1 => some (mgo_dup_x1 nx ax)
    | .dup2 => some (mgo_dup2 nx ax)
    | .f2d => some (mgo_f2d nx ax)
    | .fconst a0 => some (mgo_fconst a0 nx ax)
    | .fdiv => some (mgo_fdiv nx ax)
    | .freturn => some (mgo_freturn nx ax)
    | .getfield a0 => some (mgo_getfield a0 nx ax)
    | .getstatic a0 => some (mgo_getstatic a0 nx ax)
    | .goto a0 => some (mgo_goto a0 nx ax)
    | .i2b => some (mgo_i2b nx ax)
    | .i2c => some (mgo_i2c nx ax)
    | .i2d => some (mgo_i2d nx ax)
    | .i2f => some (mgo_i2f nx ax)
    | .i2l => some (mgo_i2l nx ax)
    | .iadd => some (mgo_iadd nx ax)
    | .iaload => some (mgo_iaload nx ax)
    | .iand => some (mgo_iand nx ax)
    | .iastore => some (mgo_iastore nx ax)
    | .iconst a0 => some (mgo_iconst a0 nx ax)
    | .idiv => some (mgo_idiv nx ax)
    | .if_icmp a0 a1 => some (mgo_if_icmp a0 a1 nx ax)
    | .ifCond a0 a1 => some (mgo_ifCond a0 a1 nx ax)
    | .ifnonnull a0 => some (mgo_ifnonnull a0 nx ax)
    | .ifnull a0 => some (mgo_ifnull a0 nx ax)
    | .iinc a0 a1 => some (mgo_iinc a0 a1 nx ax)
    | .iload a0 => some (mgo_iload a0 nx ax)
    | .iload_n a0 => some (mgo_iload_n a0 nx ax)
    | .imul => some (mgo_imul nx ax)
    | .ineg => some (mgo_ineg nx ax)
    | .invokespecial a0 => some (mgo_invokespecial a0 nx ax)
    | .invokestatic a0 => some (mgo_invokestatic a0 nx ax)
    | .invokevirtual a0 => some (mgo_invokevirtual a0 nx ax)
    | .ior => some (mgo_ior nx ax)
    | .irem => some (mgo_irem nx ax)
    | .ireturn => some (mgo_ireturn nx ax)
    | .ishl => some (mgo_ishl nx ax)
    | .ishr => some (mgo_ishr nx ax)
    | .istore a0 => some (mgo_istore a0 nx ax)
    | .istore_n a0 => some (mgo_istore_n a0 nx ax)
    | .isub => some (mgo_isub nx ax)
    | .iushr => some (mgo_iushr nx ax)
    | .ixor => some (mgo_ixor nx ax)
    | .laload => some (mgo_laload nx ax)
    | .lastore => some (mgo_lastore nx ax)
    | .lcmp => some (mgo_lcmp nx ax)
    | .lconst a0 => some (mgo_lconst a0 nx ax)
    | .ldc a0 => some (mgo_ldc a0 nx ax)
    | .ldc_w a0 => some (mgo_ldc_w a0 nx ax)
    | .ldc2_w a0 => some (mgo_ldc2_w a0 nx ax)
    | .lload a0 => some (mgo_lload a0 nx ax)
    | .lload_n a0 => some (mgo_lload_n a0 nx ax)
    | .lstore a0 => some (mgo_lstore a0 nx ax)
    | .new a0 => some (mgo_new a0 nx ax)
    | .newarray a0 => some (mgo_newarray a0 nx ax)
    | .pop => some (mgo_pop nx ax)
    | .putfield a0 => some (mgo_putfield a0 nx ax)
    | .return_ => some (mgo_return_ nx ax)
    | .sipush a0 => some (mgo_sipush a0 nx ax)
    | .tableswitch a0 a1 a2 a3 => some (mgo_tableswitch a0 a1 a2 a3 nx ax)
    | _ => none
theorem mgo_tab_ok {mi : mm_I} {f : my_E → mm_X → (Nat → Option mm_C) → Nat → mm_L → List Value → Option mm_A} (hf : mgo_tab mi = some f) (E : my_E) (X : mm_X) (h : mm_H) (L : mm_L) (st : List Value) : ∃ f0, mo_tab mi = some f0 ∧ f E X (mm_rd X.1 h) h.length L st = f0 E X h L st := by
  obtain ⟨pc, i, nx, ax⟩ := mi
  cases i with
  | aaload => cases hf; exact ⟨_, rfl, rfl⟩
  | aastore => cases hf; exact ⟨_, rfl, rfl⟩
  | aconst_null => cases hf; exact ⟨_, rfl, rfl⟩
  | aload x0 => cases hf; exact ⟨_, rfl, rfl⟩
  | aload_n x0 => cases hf; exact ⟨_, rfl, rfl⟩
  | anewarray x0 => cases hf; exact ⟨_, rfl, rfl⟩
  | areturn => cases hf; exact ⟨_, rfl, rfl⟩
  | arraylength => cases hf; exact ⟨_, rfl, rfl⟩
  | astore x0 => cases hf; exact ⟨_, rfl, rfl⟩
  | astore_n x0 => cases hf; exact ⟨_, rfl, rfl⟩
  | athrow => cases hf
  | baload => cases hf; exact ⟨_, rfl, rfl⟩
  | bastore => cases hf; exact ⟨_, rfl, rfl⟩
  | bipush x0 => cases hf; exact ⟨_, rfl, rfl⟩
  | caload => cases hf
  | castore => cases hf
  | checkcast x0 => cases hf
  | d2f => cases hf
  | d2i => cases hf
  | d2l => cases hf
  | dadd => cases hf
  | daload => cases hf
  | dastore => cases hf
  | dcmp x0 => cases hf; exact ⟨_, rfl, rfl⟩
  | dconst x0 => cases hf; exact ⟨_, rfl, rfl⟩
  | ddiv => cases hf; exact ⟨_, rfl, rfl⟩
  | dload x0 => cases hf; exact ⟨_, rfl, rfl⟩
  | dload_n x0 => cases hf; exact ⟨_, rfl, rfl⟩
  | dmul => cases hf
  | dneg => cases hf
  | drem => cases hf
  | dreturn => cases hf; exact ⟨_, rfl, rfl⟩
  | dstore x0 => cases hf; exact ⟨_, rfl, rfl⟩
  | dstore_n x0 => cases hf
  | dsub => cases hf
  | dup => cases hf; exact ⟨_, rfl, rfl⟩
  | dup_x1 => cases hf; exact ⟨_, rfl, rfl⟩
  | dup_x2 => cases hf
  | dup2 => cases hf; exact ⟨_, rfl, rfl⟩
  | dup2_x1 => cases hf
  | dup2_x2 => cases hf
  | f2d => cases hf; exact ⟨_, rfl, rfl⟩
  | f2i => cases hf
  | f2l => cases hf
  | fadd => cases hf
  | faload => cases hf
  | fastore => cases hf
  | fcmp x0 => cases hf
  | fconst x0 => cases hf; exact ⟨_, rfl, rfl⟩
  | fdiv => cases hf; exact ⟨_, rfl, rfl⟩
  | fload x0 => cases hf
  | fload_n x0 => cases hf
  | fmul => cases hf
  | fneg => cases hf
  | frem => cases hf
  | freturn => cases hf; exact ⟨_, rfl, rfl⟩
  | fstore x0 => cases hf
  | fstore_n x0 => cases hf
  | fsub => cases hf
  | getfield x0 => cases hf; exact ⟨_, rfl, rfl⟩
  | getstatic x0 => cases hf; exact ⟨_, rfl, rfl⟩
  | goto x0 => cases hf; exact ⟨_, rfl, rfl⟩
  | goto_w x0 => cases hf
  | i2b => cases hf; exact ⟨_, rfl, rfl⟩
  | i2c => cases hf; exact ⟨_, rfl, rfl⟩
  | i2d => cases hf; exact ⟨_, rfl, rfl⟩
  | i2f => cases hf; exact ⟨_, rfl, rfl⟩
  | i2l => cases hf; exact ⟨_, rfl, rfl⟩
  | i2s => cases hf
  | iadd => cases hf; exact ⟨_, rfl, rfl⟩
  | iaload => cases hf; exact ⟨_, rfl, rfl⟩
  | iand => cases hf; exact ⟨_, rfl, rfl⟩
  | iastore => cases hf; exact ⟨_, rfl, rfl⟩
  | iconst x0 => cases hf; exact ⟨_, rfl, rfl⟩
  | idiv => cases hf; exact ⟨_, rfl, rfl⟩
  | if_acmp x0 x1 => cases hf
  | if_icmp x0 x1 => cases hf; exact ⟨_, rfl, rfl⟩
  | ifCond x0 x1 => cases hf; exact ⟨_, rfl, rfl⟩
  | ifnonnull x0 => cases hf; exact ⟨_, rfl, rfl⟩
  | ifnull x0 => cases hf; exact ⟨_, rfl, rfl⟩
  | iinc x0 x1 => cases hf; exact ⟨_, rfl, rfl⟩
  | iload x0 => cases hf; exact ⟨_, rfl, rfl⟩
  | iload_n x0 => cases hf; exact ⟨_, rfl, rfl⟩
  | imul => cases hf; exact ⟨_, rfl, rfl⟩
  | ineg => cases hf; exact ⟨_, rfl, rfl⟩
  | instanceof x0 => cases hf
  | invokedynamic x0 => cases hf
  | invokeinterface x0 x1 => cases hf
  | invokespecial x0 => cases hf; exact ⟨_, rfl, rfl⟩
  | invokestatic x0 => cases hf; exact ⟨_, rfl, rfl⟩
  | invokevirtual x0 => cases hf; exact ⟨_, rfl, rfl⟩
  | ior => cases hf; exact ⟨_, rfl, rfl⟩
  | irem => cases hf; exact ⟨_, rfl, rfl⟩
  | ireturn => cases hf; exact ⟨_, rfl, rfl⟩
  | ishl => cases hf; exact ⟨_, rfl, rfl⟩
  | ishr => cases hf; exact ⟨_, rfl, rfl⟩
  | istore x0 => cases hf; exact ⟨_, rfl, rfl⟩
  | istore_n x0 => cases hf; exact ⟨_, rfl, rfl⟩
  | isub => cases hf; exact ⟨_, rfl, rfl⟩
  | iushr => cases hf; exact ⟨_, rfl, rfl⟩
  | ixor => cases hf; exact ⟨_, rfl, rfl⟩
  | jsr x0 => cases hf
  | jsr_w x0 => cases hf
  | l2d => cases hf
  | l2f => cases hf
  | l2i => cases hf
  | ladd => cases hf
  | laload => cases hf; exact ⟨_, rfl, rfl⟩
  | land => cases hf
  | lastore => cases hf; exact ⟨_, rfl, rfl⟩
  | lcmp => cases hf; exact ⟨_, rfl, rfl⟩
  | lconst x0 => cases hf; exact ⟨_, rfl, rfl⟩
  | ldc x0 => cases hf; exact ⟨_, rfl, rfl⟩
  | ldc_w x0 => cases hf; exact ⟨_, rfl, rfl⟩
  | ldc2_w x0 => cases hf; exact ⟨_, rfl, rfl⟩
  | ldiv => cases hf
  | lload x0 => cases hf; exact ⟨_, rfl, rfl⟩
  | lload_n x0 => cases hf; exact ⟨_, rfl, rfl⟩
  | lmul => cases hf
  | lneg => cases hf
  | lookupswitch x0 x1 => cases hf
  | lor => cases hf
  | lrem => cases hf
  | lreturn => cases hf
  | lshl => cases hf
  | lshr => cases hf
  | lstore x0 => cases hf; exact ⟨_, rfl, rfl⟩
  | lstore_n x0 => cases hf
  | lsub => cases hf
  | lushr => cases hf
  | lxor => cases hf
  | monitorenter => cases hf
  | monitorexit => cases hf
  | multianewarray x0 x1 => cases hf
  | new x0 => cases hf; exact ⟨_, rfl, rfl⟩
  | newarray x0 => cases hf; exact ⟨_, rfl, rfl⟩
  | nop => cases hf
  | pop => cases hf; exact ⟨_, rfl, rfl⟩
  | pop2 => cases hf
  | putfield x0 => cases hf; exact ⟨_, rfl, rfl⟩
  | putstatic x0 => cases hf
  | ret x0 => cases hf
  | return_ => cases hf; exact ⟨_, rfl, rfl⟩
  | saload => cases hf
  | sastore => cases hf
  | sipush x0 => cases hf; exact ⟨_, rfl, rfl⟩
  | swap => cases hf
  | tableswitch x0 x1 x2 x3 => cases hf; exact ⟨_, rfl, rfl⟩
/-! the trie -/
abbrev mf_T0 : Type := Option mm_C
abbrev mf_T1 : Type := mf_T0 × mf_T0
abbrev mf_T2 : Type := mf_T1 × mf_T1
abbrev mf_T3 : Type := mf_T2 × mf_T2
abbrev mf_T4 : Type := mf_T3 × mf_T3
abbrev mf_T5 : Type := mf_T4 × mf_T4
abbrev mf_T6 : Type := mf_T5 × mf_T5
abbrev mf_T7 : Type := mf_T6 × mf_T6
abbrev mf_T8 : Type := mf_T7 × mf_T7
abbrev mf_T9 : Type := mf_T8 × mf_T8
def mf_e0 : mf_T0 := none
def mf_e1 : mf_T1 := (mf_e0, mf_e0)
def mf_e2 : mf_T2 := (mf_e1, mf_e1)
def mf_e3 : mf_T3 := (mf_e2, mf_e2)
def mf_e4 : mf_T4 := (mf_e3, mf_e3)
def mf_e5 : mf_T5 := (mf_e4, mf_e4)
def mf_e6 : mf_T6 := (mf_e5, mf_e5)
def mf_e7 : mf_T7 := (mf_e6, mf_e6)
def mf_e8 : mf_T8 := (mf_e7, mf_e7)
def mf_e9 : mf_T9 := (mf_e8, mf_e8)
noncomputable def mf_g0 (t : mf_T0) (k : Nat) : Option mm_C := Bool.rec (motive := fun _ => Option mm_C) none t (Nat.beq k 0)
noncomputable def mf_g1 (t : mf_T1) (k : Nat) : Option mm_C := Bool.rec (motive := fun _ => Option mm_C) (mf_g0 t.1 k) (mf_g0 t.2 (Nat.sub k 1)) (Nat.ble 1 k)
noncomputable def mf_g2 (t : mf_T2) (k : Nat) : Option mm_C := Bool.rec (motive := fun _ => Option mm_C) (mf_g1 t.1 k) (mf_g1 t.2 (Nat.sub k 2)) (Nat.ble 2 k)
noncomputable def mf_g3 (t : mf_T3) (k : Nat) : Option mm_C := Bool.rec (motive := fun _ => Option mm_C) (mf_g2 t.1 k) (mf_g2 t.2 (Nat.sub k 4)) (Nat.ble 4 k)
noncomputable def mf_g4 (t : mf_T4) (k : Nat) : Option mm_C := Bool.rec (motive := fun _ => Option mm_C) (mf_g3 t.1 k) (mf_g3 t.2 (Nat.sub k 8)) (Nat.ble 8 k)
noncomputable def mf_g5 (t : mf_T5) (k : Nat) : Option mm_C := Bool.rec (motive := fun _ => Option mm_C) (mf_g4 t.1 k) (mf_g4 t.2 (Nat.sub k 16)) (Nat.ble 16 k)
noncomputable def mf_g6 (t : mf_T6) (k : Nat) : Option mm_C := Bool.rec (motive := fun _ => Option mm_C) (mf_g5 t.1 k) (mf_g5 t.2 (Nat.sub k 32)) (Nat.ble 32 k)
noncomputable def mf_g7 (t : mf_T7) (k : Nat) : Option mm_C := Bool.rec (motive := fun _ => Option mm_C) (mf_g6 t.1 k) (mf_g6 t.2 (Nat.sub k 64)) (Nat.ble 64 k)
noncomputable def mf_g8 (t : mf_T8) (k : Nat) : Option mm_C := Bool.rec (motive := fun _ => Option mm_C) (mf_g7 t.1 k) (mf_g7 t.2 (Nat.sub k 128)) (Nat.ble 128 k)
noncomputable def mf_g9 (t : mf_T9) (k : Nat) : Option mm_C := Bool.rec (motive := fun _ => Option mm_C) (mf_g8 t.1 k) (mf_g8 t.2 (Nat.sub k 256)) (Nat.ble 256 k)
noncomputable def mf_u0 (t : mf_T0) (k : Nat) (c : mm_C) : mf_T0 := Bool.rec (motive := fun _ => mf_T0) t (some c) (Nat.beq k 0)
noncomputable def mf_u1 (t : mf_T1) (k : Nat) (c : mm_C) : mf_T1 := Bool.rec (motive := fun _ => mf_T1) (mf_u0 t.1 k c, t.2) (t.1, mf_u0 t.2 (Nat.sub k 1) c) (Nat.ble 1 k)
noncomputable def mf_u2 (t : mf_T2) (k : Nat) (c : mm_C) : mf_T2 := Bool.rec (motive := fun _ => mf_T2) (mf_u1 t.1 k c, t.2) (t.1, mf_u1 t.2 (Nat.sub k 2) c) (Nat.ble 2 k)
noncomputable def mf_u3 (t : mf_T3) (k : Nat) (c : mm_C) : mf_T3 := Bool.rec (motive := fun _ => mf_T3) (mf_u2 t.1 k c, t.2) (t.1, mf_u2 t.2 (Nat.sub k 4) c) (Nat.ble 4 k)
noncomputable def mf_u4 (t : mf_T4) (k : Nat) (c : mm_C) : mf_T4 := Bool.rec (motive := fun _ => mf_T4) (mf_u3 t.1 k c, t.2) (t.1, mf_u3 t.2 (Nat.sub k 8) c) (Nat.ble 8 k)
noncomputable def mf_u5 (t : mf_T5) (k : Nat) (c : mm_C) : mf_T5 := Bool.rec (motive := fun _ => mf_T5) (mf_u4 t.1 k c, t.2) (t.1, mf_u4 t.2 (Nat.sub k 16) c) (Nat.ble 16 k)
noncomputable def mf_u6 (t : mf_T6) (k : Nat) (c : mm_C) : mf_T6 := Bool.rec (motive := fun _ => mf_T6) (mf_u5 t.1 k c, t.2) (t.1, mf_u5 t.2 (Nat.sub k 32) c) (Nat.ble 32 k)
noncomputable def mf_u7 (t : mf_T7) (k : Nat) (c : mm_C) : mf_T7 := Bool.rec (motive := fun _ => mf_T7) (mf_u6 t.1 k c, t.2) (t.1, mf_u6 t.2 (Nat.sub k 64) c) (Nat.ble 64 k)
noncomputable def mf_u8 (t : mf_T8) (k : Nat) (c : mm_C) : mf_T8 := Bool.rec (motive := fun _ => mf_T8) (mf_u7 t.1 k c, t.2) (t.1, mf_u7 t.2 (Nat.sub k 128) c) (Nat.ble 128 k)
noncomputable def mf_u9 (t : mf_T9) (k : Nat) (c : mm_C) : mf_T9 := Bool.rec (motive := fun _ => mf_T9) (mf_u8 t.1 k c, t.2) (t.1, mf_u8 t.2 (Nat.sub k 256) c) (Nat.ble 256 k)
noncomputable def mf_s0 {α : Type} (t : mf_T0) (k : Nat) (c : mm_C) (K : mf_T0 → α) : α := Bool.rec (motive := fun _ => α) (K t) (K (some c)) (Nat.beq k 0)
noncomputable def mf_s1 {α : Type} (t : mf_T1) (k : Nat) (c : mm_C) (K : mf_T1 → α) : α := Prod.rec (motive := fun _ => α) (fun l r => Bool.rec (motive := fun _ => α) (mf_s0 l k c fun l1 => K (l1, r)) (mf_s0 r (Nat.sub k 1) c fun r1 => K (l, r1)) (Nat.ble 1 k)) t
noncomputable def mf_s2 {α : Type} (t : mf_T2) (k : Nat) (c : mm_C) (K : mf_T2 → α) : α := Prod.rec (motive := fun _ => α) (fun l r => Bool.rec (motive := fun _ => α) (mf_s1 l k c fun l1 => K (l1, r)) (mf_s1 r (Nat.sub k 2) c fun r1 => K (l, r1)) (Nat.ble 2 k)) t
noncomputable def mf_s3 {α : Type} (t : mf_T3) (k : Nat) (c : mm_C) (K : mf_T3 → α) : α := Prod.rec (motive := fun _ => α) (fun l r => Bool.rec (motive := fun _ => α) (mf_s2 l k c fun l1 => K (l1, r)) (mf_s2 r (Nat.sub k 4) c fun r1 => K (l, r1)) (Nat.ble 4 k)) t
noncomputable def mf_s4 {α : Type} (t : mf_T4) (k : Nat) (c : mm_C) (K : mf_T4 → α) : α := Prod.rec (motive := fun _ => α) (fun l r => Bool.rec (motive := fun _ => α) (mf_s3 l k c fun l1 => K (l1, r)) (mf_s3 r (Nat.sub k 8) c fun r1 => K (l, r1)) (Nat.ble 8 k)) t
noncomputable def mf_s5 {α : Type} (t : mf_T5) (k : Nat) (c : mm_C) (K : mf_T5 → α) : α := Prod.rec (motive := fun _ => α) (fun l r => Bool.rec (motive := fun _ => α) (mf_s4 l k c fun l1 => K (l1, r)) (mf_s4 r (Nat.sub k 16) c fun r1 => K (l, r1)) (Nat.ble 16 k)) t
noncomputable def mf_s6 {α : Type} (t : mf_T6) (k : Nat) (c : mm_C) (K : mf_T6 → α) : α := Prod.rec (motive := fun _ => α) (fun l r => Bool.rec (motive := fun _ => α) (mf_s5 l k c fun l1 => K (l1, r)) (mf_s5 r (Nat.sub k 32) c fun r1 => K (l, r1)) (Nat.ble 32 k)) t
noncomputable def mf_s7 {α : Type} (t : mf_T7) (k : Nat) (c : mm_C) (K : mf_T7 → α) : α := Prod.rec (motive := fun _ => α) (fun l r => Bool.rec (motive := fun _ => α) (mf_s6 l k c fun l1 => K (l1, r)) (mf_s6 r (Nat.sub k 64) c fun r1 => K (l, r1)) (Nat.ble 64 k)) t
noncomputable def mf_s8 {α : Type} (t : mf_T8) (k : Nat) (c : mm_C) (K : mf_T8 → α) : α := Prod.rec (motive := fun _ => α) (fun l r => Bool.rec (motive := fun _ => α) (mf_s7 l k c fun l1 => K (l1, r)) (mf_s7 r (Nat.sub k 128) c fun r1 => K (l, r1)) (Nat.ble 128 k)) t
noncomputable def mf_s9 {α : Type} (t : mf_T9) (k : Nat) (c : mm_C) (K : mf_T9 → α) : α := Prod.rec (motive := fun _ => α) (fun l r => Bool.rec (motive := fun _ => α) (mf_s8 l k c fun l1 => K (l1, r)) (mf_s8 r (Nat.sub k 256) c fun r1 => K (l, r1)) (Nat.ble 256 k)) t
theorem mf_s0_eq {α : Type} (t : mf_T0) (k : Nat) (c : mm_C) (K : mf_T0 → α) : mf_s0 t k c K = K (mf_u0 t k c) := by
  unfold mf_s0 mf_u0
  cases Nat.beq k 0 <;> rfl
theorem mf_s1_eq {α : Type} (t : mf_T1) (k : Nat) (c : mm_C) (K : mf_T1 → α) : mf_s1 t k c K = K (mf_u1 t k c) := by
  obtain ⟨l, r⟩ := t
  unfold mf_s1 mf_u1
  dsimp only
  cases Nat.ble 1 k
  · exact mf_s0_eq l k c _
  · exact mf_s0_eq r _ c _
theorem mf_s2_eq {α : Type} (t : mf_T2) (k : Nat) (c : mm_C) (K : mf_T2 → α) : mf_s2 t k c K = K (mf_u2 t k c) := by
  obtain ⟨l, r⟩ := t
  unfold mf_s2 mf_u2
  dsimp only
  cases Nat.ble 2 k
  · exact mf_s1_eq l k c _
  · exact mf_s1_eq r _ c _
theorem mf_s3_eq {α : Type} (t : mf_T3) (k : Nat) (c : mm_C) (K : mf_T3 → α) : mf_s3 t k c K = K (mf_u3 t k c) := by
  obtain ⟨l, r⟩ := t
  unfold mf_s3 mf_u3
  dsimp only
  cases Nat.ble 4 k
  · exact mf_s2_eq l k c _
  · exact mf_s2_eq r _ c _
theorem mf_s4_eq {α : Type} (t : mf_T4) (k : Nat) (c : mm_C) (K : mf_T4 → α) : mf_s4 t k c K = K (mf_u4 t k c) := by
  obtain ⟨l, r⟩ := t
  unfold mf_s4 mf_u4
  dsimp only
  cases Nat.ble 8 k
  · exact mf_s3_eq l k c _
  · exact mf_s3_eq r _ c _
theorem mf_s5_eq {α : Type} (t : mf_T5) (k : Nat) (c : mm_C) (K : mf_T5 → α) : mf_s5 t k c K = K (mf_u5 t k c) := by
  obtain ⟨l, r⟩ := t
  unfold mf_s5 mf_u5
  dsimp only
  cases Nat.ble 16 k
  · exact mf_s4_eq l k c _
  · exact mf_s4_eq r _ c _
theorem mf_s6_eq {α : Type} (t : mf_T6) (k : Nat) (c : mm_C) (K : mf_T6 → α) : mf_s6 t k c K = K (mf_u6 t k c) := by
  obtain ⟨l, r⟩ := t
  unfold mf_s6 mf_u6
  dsimp only
  cases Nat.ble 32 k
  · exact mf_s5_eq l k c _
  · exact mf_s5_eq r _ c _
theorem mf_s7_eq {α : Type} (t : mf_T7) (k : Nat) (c : mm_C) (K : mf_T7 → α) : mf_s7 t k c K = K (mf_u7 t k c) := by
  obtain ⟨l, r⟩ := t
  unfold mf_s7 mf_u7
  dsimp only
  cases Nat.ble 64 k
  · exact mf_s6_eq l k c _
  · exact mf_s6_eq r _ c _
theorem mf_s8_eq {α : Type} (t : mf_T8) (k : Nat) (c : mm_C) (K : mf_T8 → α) : mf_s8 t k c K = K (mf_u8 t k c) := by
  obtain ⟨l, r⟩ := t
  unfold mf_s8 mf_u8
  dsimp only
  cases Nat.ble 128 k
  · exact mf_s7_eq l k c _
  · exact mf_s7_eq r _ c _
theorem mf_s9_eq {α : Type} (t : mf_T9) (k : Nat) (c : mm_C) (K : mf_T9 → α) : mf_s9 t k c K = K (mf_u9 t k c) := by
  obtain ⟨l, r⟩ := t
  unfold mf_s9 mf_u9
  dsimp only
  cases Nat.ble 256 k
  · exact mf_s8_eq l k c _
  · exact mf_s8_eq r _ c _
theorem mf_e0_g (k : Nat) : mf_g0 mf_e0 k = none := by
  unfold mf_g0
  cases Nat.beq k 0 <;> rfl
theorem mf_e1_g (k : Nat) : mf_g1 mf_e1 k = none := by
  unfold mf_g1
  cases Nat.ble 1 k
  · exact mf_e0_g k
  · exact mf_e0_g _
theorem mf_e2_g (k : Nat) : mf_g2 mf_e2 k = none := by
  unfold mf_g2
  cases Nat.ble 2 k
  · exact mf_e1_g k
  · exact mf_e1_g _
theorem mf_e3_g (k : Nat) : mf_g3 mf_e3 k = none := by
  unfold mf_g3
  cases Nat.ble 4 k
  · exact mf_e2_g k
  · exact mf_e2_g _
theorem mf_e4_g (k : Nat) : mf_g4 mf_e4 k = none := by
  unfold mf_g4
  cases Nat.ble 8 k
  · exact mf_e3_g k
  · exact mf_e3_g _
theorem mf_e5_g (k : Nat) : mf_g5 mf_e5 k = none := by
  unfold mf_g5
  cases Nat.ble 16 k
  · exact mf_e4_g k
  · exact mf_e4_g _
theorem mf_e6_g (k : Nat) : mf_g6 mf_e6 k = none := by
  unfold mf_g6
  cases Nat.ble 32 k
  · exact mf_e5_g k
  · exact mf_e5_g _
theorem mf_e7_g (k : Nat) : mf_g7 mf_e7 k = none := by
  unfold mf_g7
  cases Nat.ble 64 k
  · exact mf_e6_g k
  · exact mf_e6_g _
theorem mf_e8_g (k : Nat) : mf_g8 mf_e8 k = none := by
  unfold mf_g8
  cases Nat.ble 128 k
  · exact mf_e7_g k
  · exact mf_e7_g _
theorem mf_e9_g (k : Nat) : mf_g9 mf_e9 k = none := by
  unfold mf_g9
  cases Nat.ble 256 k
  · exact mf_e8_g k
  · exact mf_e8_g _
theorem mf_u0_g (t : mf_T0) (k j : Nat) (c : mm_C) (hk : k < 1) : mf_g0 (mf_u0 t k c) j = if j = k then some c else mf_g0 t j := by
  have hk : k = 0 := by omega
  subst hk
  unfold mf_u0 mf_g0
  cases hj : Nat.beq j 0 with
  | true =>
    rw [if_pos (Nat.beq_eq.mp hj)]
    rfl
  | false =>
    rw [if_neg (fun e => by subst e; cases hj)]
theorem mf_u1_g (t : mf_T1) (k j : Nat) (c : mm_C) (hk : k < 2) : mf_g1 (mf_u1 t k c) j = if j = k then some c else mf_g1 t j := by
  obtain ⟨l, r⟩ := t
  unfold mf_u1 mf_g1
  cases h1 : Nat.ble 1 k with
  | true =>
    have h1 := Nat.le_of_ble_eq_true h1
    dsimp only
    cases h2 : Nat.ble 1 j with
    | true =>
      have h2 := Nat.le_of_ble_eq_true h2
      dsimp only
      rw [mf_u0_g r (Nat.sub k 1) (Nat.sub j 1) c (by show k - 1 < 1; omega)]
      by_cases e : j = k
      · subst e; rw [if_pos rfl, if_pos rfl]
      · rw [if_neg (show ¬ Nat.sub j 1 = Nat.sub k 1 from fun h => e (by have h : j - 1 = k - 1 := h; omega)), if_neg e]
    | false =>
      have h2 : ¬ 1 ≤ j := fun h => by rw [Nat.ble_eq_true_of_le h] at h2; cases h2
      dsimp only
      rw [if_neg (by omega)]
  | false =>
    have h1 : ¬ 1 ≤ k := fun h => by rw [Nat.ble_eq_true_of_le h] at h1; cases h1
    dsimp only
    cases h2 : Nat.ble 1 j with
    | true =>
      have h2 := Nat.le_of_ble_eq_true h2
      dsimp only
      rw [if_neg (by omega)]
    | false =>
      dsimp only
      exact mf_u0_g l k j c (by omega)
theorem mf_u2_g (t : mf_T2) (k j : Nat) (c : mm_C) (hk : k < 4) : mf_g2 (mf_u2 t k c) j = if j = k then some c else mf_g2 t j := by
  obtain ⟨l, r⟩ := t
  unfold mf_u2 mf_g2
  cases h1 : Nat.ble 2 k with
  | true =>
    have h1 := Nat.le_of_ble_eq_true h1
    dsimp only
    cases h2 : Nat.ble 2 j with
    | true =>
      have h2 := Nat.le_of_ble_eq_true h2
      dsimp only
      rw [mf_u1_g r (Nat.sub k 2) (Nat.sub j 2) c (by show k - 2 < 2; omega)]
      by_cases e : j = k
      · subst e; rw [if_pos rfl, if_pos rfl]
      · rw [if_neg (show ¬ Nat.sub j 2 = Nat.sub k 2 from fun h => e (by have h : j - 2 = k - 2 := h; omega)), if_neg e]
    | false =>
      have h2 : ¬ 2 ≤ j := fun h => by rw [Nat.ble_eq_true_of_le h] at h2; cases h2
      dsimp only
      rw [if_neg (by omega)]
  | false =>
    have h1 : ¬ 2 ≤ k := fun h => by rw [Nat.ble_eq_true_of_le h] at h1; cases h1
    dsimp only
    cases h2 : Nat.ble 2 j with
    | true =>
      have h2 := Nat.le_of_ble_eq_true h2
      dsimp only
      rw [if_neg (by omega)]
    | false =>
      dsimp only
      exact mf_u1_g l k j c (by omega)
theorem mf_u3_g (t : mf_T3) (k j : Nat) (c : mm_C) (hk : k < 8) : mf_g3 (mf_u3 t k c) j = if j = k then some c else mf_g3 t j := by
  obtain ⟨l, r⟩ := t
  unfold mf_u3 mf_g3
  cases h1 : Nat.ble 4 k with
  | true =>
    have h1 := Nat.le_of_ble_eq_true h1
    dsimp only
    cases h2 : Nat.ble 4 j with
    | true =>
      have h2 := Nat.le_of_ble_eq_true h2
      dsimp only
      rw [mf_u2_g r (Nat.sub k 4) (Nat.sub j 4) c (by show k - 4 < 4; omega)]
      by_cases e : j = k
      · subst e; rw [if_pos rfl, if_pos rfl]
      · rw [if_neg (show ¬ Nat.sub j 4 = Nat.sub k 4 from fun h => e (by have h : j - 4 = k - 4 := h; omega)), if_neg e]
    | false =>
      have h2 : ¬ 4 ≤ j := fun h => by rw [Nat.ble_eq_true_of_le h] at h2; cases h2
      dsimp only
      rw [if_neg (by omega)]
  | false =>
    have h1 : ¬ 4 ≤ k := fun h => by rw [Nat.ble_eq_true_of_le h] at h1; cases h1
    dsimp only
    cases h2 : Nat.ble 4 j with
    | true =>
      have h2 := Nat.le_of_ble_eq_true h2
      dsimp only
      rw [if_neg (by omega)]
    | false =>
      dsimp only
      exact mf_u2_g l k j c (by omega)
theorem mf_u4_g (t : mf_T4) (k j : Nat) (c : mm_C) (hk : k < 16) : mf_g4 (mf_u4 t k c) j = if j = k then some c else mf_g4 t j := by
  obtain ⟨l, r⟩ := t
  unfold mf_u4 mf_g4
  cases h1 : Nat.ble 8 k with
  | true =>
    have h1 := Nat.le_of_ble_eq_true h1
    dsimp only
    cases h2 : Nat.ble 8 j with
    | true =>
      have h2 := Nat.le_of_ble_eq_true h2
      dsimp only
      rw [mf_u3_g r (Nat.sub k 8) (Nat.sub j 8) c (by show k - 8 < 8; omega)]
      by_cases e : j = k
      · subst e; rw [if_pos rfl, if_pos rfl]
      · rw [if_neg (show ¬ Nat.sub j 8 = Nat.sub k 8 from fun h => e (by have h : j - 8 = k - 8 := h; omega)), if_neg e]
    | false =>
      have h2 : ¬ 8 ≤ j := fun h => by rw [Nat.ble_eq_true_of_le h] at h2; cases h2
      dsimp only
      rw [if_neg (by omega)]
  | false =>
    have h1 : ¬ 8 ≤ k := fun h => by rw [Nat.ble_eq_true_of_le h] at h1; cases h1
    dsimp only
    cases h2 : Nat.ble 8 j with
    | true =>
      have h2 := Nat.le_of_ble_eq_true h2
      dsimp only
      rw [if_neg (by omega)]
    | false =>
      dsimp only
      exact mf_u3_g l k j c (by omega)
theorem mf_u5_g (t : mf_T5) (k j : Nat) (c : mm_C) (hk : k < 32) : mf_g5 (mf_u5 t k c) j = if j = k then some c else mf_g5 t j := by
  obtain ⟨l, r⟩ := t
  unfold mf_u5 mf_g5
  cases h1 : Nat.ble 16 k with
  | true =>
    have h1 := Nat.le_of_ble_eq_true h1
    dsimp only
    cases h2 : Nat.ble 16 j with
    | true =>
      have h2 := Nat.le_of_ble_eq_true h2
      dsimp only
      rw [mf_u4_g r (Nat.sub k 16) (Nat.sub j 16) c (by show k - 16 < 16; omega)]
      by_cases e : j = k
      · subst e; rw [if_pos rfl, if_pos rfl]
      · rw [if_neg (show ¬ Nat.sub j 16 = Nat.sub k 16 from fun h => e (by have h : j - 16 = k - 16 := h; omega)), if_neg e]
    | false =>
      have h2 : ¬ 16 ≤ j := fun h => by rw [Nat.ble_eq_true_of_le h] at h2; cases h2
      dsimp only
      rw [if_neg (by omega)]
  | false =>
    have h1 : ¬ 16 ≤ k := fun h => by rw [Nat.ble_eq_true_of_le h] at h1; cases h1
    dsimp only
    cases h2 : Nat.ble 16 j with
    | true =>
      have h2 := Nat.le_of_ble_eq_true h2
      dsimp only
      rw [if_neg (by omega)]
    | false =>
      dsimp only
      exact mf_u4_g l k j c (by omega)
theorem mf_u6_g (t : mf_T6) (k j : Nat) (c : mm_C) (hk : k < 64) : mf_g6 (mf_u6 t k c) j = if j = k then some c else mf_g6 t j := by
  obtain ⟨l, r⟩ := t
  unfold mf_u6 mf_g6
  cases h1 : Nat.ble 32 k with
  | true =>
    have h1 := Nat.le_of_ble_eq_true h1
    dsimp only
    cases h2 : Nat.ble 32 j with
    | true =>
      have h2 := Nat.le_of_ble_eq_true h2
      dsimp only
      rw [mf_u5_g r (Nat.sub k 32) (Nat.sub j 32) c (by show k - 32 < 32; omega)]
      by_cases e : j = k
      · subst e; rw [if_pos rfl, if_pos rfl]
      · rw [if_neg (show ¬ Nat.sub j 32 = Nat.sub k 32 from fun h => e (by have h : j - 32 = k - 32 := h; omega)), if_neg e]
    | false =>
      have h2 : ¬ 32 ≤ j := fun h => by rw [Nat.ble_eq_true_of_le h] at h2; cases h2
      dsimp only
      rw [if_neg (by omega)]
  | false =>
    have h1 : ¬ 32 ≤ k := fun h => by rw [Nat.ble_eq_true_of_le h] at h1; cases h1
    dsimp only
    cases h2 : Nat.ble 32 j with
    | true =>
      have h2 := Nat.le_of_ble_eq_true h2
      dsimp only
      rw [if_neg (by omega)]
    | false =>
      dsimp only
      exact mf_u5_g l k j c (by omega)
theorem mf_u7_g (t : mf_T7) (k j : Nat) (c : mm_C) (hk : k < 128) : mf_g7 (mf_u7 t k c) j = if j = k then some c else mf_g7 t j := by
  obtain ⟨l, r⟩ := t
  unfold mf_u7 mf_g7
  cases h1 : Nat.ble 64 k with
  | true =>
    have h1 := Nat.le_of_ble_eq_true h1
    dsimp only
    cases h2 : Nat.ble 64 j with
    | true =>
      have h2 := Nat.le_of_ble_eq_true h2
      dsimp only
      rw [mf_u6_g r (Nat.sub k 64) (Nat.sub j 64) c (by show k - 64 < 64; omega)]
      by_cases e : j = k
      · subst e; rw [if_pos rfl, if_pos rfl]
      · rw [if_neg (show ¬ Nat.sub j 64 = Nat.sub k 64 from fun h => e (by have h : j - 64 = k - 64 := h; omega)), if_neg e]
    | false =>
      have h2 : ¬ 64 ≤ j := fun h => by rw [Nat.ble_eq_true_of_le h] at h2; cases h2
      dsimp only
      rw [if_neg (by omega)]
  | false =>
    have h1 : ¬ 64 ≤ k := fun h => by rw [Nat.ble_eq_true_of_le h] at h1; cases h1
    dsimp only
    cases h2 : Nat.ble 64 j with
    | true =>
      have h2 := Nat.le_of_ble_eq_true h2
      dsimp only
      rw [if_neg (by omega)]
    | false =>
      dsimp only
      exact mf_u6_g l k j c (by omega)
theorem mf_u8_g (t : mf_T8) (k j : Nat) (c : mm_C) (hk : k < 256) : mf_g8 (mf_u8 t k c) j = if j = k then some c else mf_g8 t j := by
  obtain ⟨l, r⟩ := t
  unfold mf_u8 mf_g8
  cases h1 : Nat.ble 128 k with
  | true =>
    have h1 := Nat.le_of_ble_eq_true h1
    dsimp only
    cases h2 : Nat.ble 128 j with
    | true =>
      have h2 := Nat.le_of_ble_eq_true h2
      dsimp only
      rw [mf_u7_g r (Nat.sub k 128) (Nat.sub j 128) c (by show k - 128 < 128; omega)]
      by_cases e : j = k
      · subst e; rw [if_pos rfl, if_pos rfl]
      · rw [if_neg (show ¬ Nat.sub j 128 = Nat.sub k 128 from fun h => e (by have h : j - 128 = k - 128 := h; omega)), if_neg e]
    | false =>
      have h2 : ¬ 128 ≤ j := fun h => by rw [Nat.ble_eq_true_of_le h] at h2; cases h2
      dsimp only
      rw [if_neg (by omega)]
  | false =>
    have h1 : ¬ 128 ≤ k := fun h => by rw [Nat.ble_eq_true_of_le h] at h1; cases h1
    dsimp only
    cases h2 : Nat.ble 128 j with
    | true =>
      have h2 := Nat.le_of_ble_eq_true h2
      dsimp only
      rw [if_neg (by omega)]
    | false =>
      dsimp only
      exact mf_u7_g l k j c (by omega)
theorem mf_u9_g (t : mf_T9) (k j : Nat) (c : mm_C) (hk : k < 512) : mf_g9 (mf_u9 t k c) j = if j = k then some c else mf_g9 t j := by
  obtain ⟨l, r⟩ := t
  unfold mf_u9 mf_g9
  cases h1 : Nat.ble 256 k with
  | true =>
    have h1 := Nat.le_of_ble_eq_true h1
    dsimp only
    cases h2 : Nat.ble 256 j with
    | true =>
      have h2 := Nat.le_of_ble_eq_true h2
      dsimp only
      rw [mf_u8_g r (Nat.sub k 256) (Nat.sub j 256) c (by show k - 256 < 256; omega)]
      by_cases e : j = k
      · subst e; rw [if_pos rfl, if_pos rfl]
      · rw [if_neg (show ¬ Nat.sub j 256 = Nat.sub k 256 from fun h => e (by have h : j - 256 = k - 256 := h; omega)), if_neg e]
    | false =>
      have h2 : ¬ 256 ≤ j := fun h => by rw [Nat.ble_eq_true_of_le h] at h2; cases h2
      dsimp only
      rw [if_neg (by omega)]
  | false =>
    have h1 : ¬ 256 ≤ k := fun h => by rw [Nat.ble_eq_true_of_le h] at h1; cases h1
    dsimp only
    cases h2 : Nat.ble 256 j with
    | true =>
      have h2 := Nat.le_of_ble_eq_true h2
      dsimp only
      rw [if_neg (by omega)]
    | false =>
      dsimp only
      exact mf_u8_g l k j c (by omega)
/-- the cells, how many, how many fields and elements -/
abbrev mf_H : Type := mf_T9 × (Nat × Nat)
noncomputable def mf_rd (X : mm_X) (T : mf_T9) (a : Nat) : Option mm_C := Bool.rec (motive := fun _ => Option mm_C) (X.1 a) (mm_fN (a - 64) fun k => mf_g9 T k) (Nat.ble 64 a)
noncomputable def mf_fl {α β : Type} (l : List α) (K : List α → β) : β := List.rec (motive := fun _ => (List α → β) → β) (fun K => K []) (fun x _ ih K => ih fun r => K (x :: r)) l K
theorem mf_fl_eq {α β : Type} : ∀ (l : List α) (K : List α → β), mf_fl l K = K l
  | [], _ => rfl
  | x :: r, K => mf_fl_eq r fun q => K (x :: q)
noncomputable def mf_fc {β : Type} (c : mm_C) (K : mm_C → β) : β := match c with
  | .inl (t, n, N) => K (.inl (t, n, N))
  | .inr (.inl (t, rs)) => mf_fl rs fun rs => K (.inr (.inl (t, rs)))
  | .inr (.inr (ci, fs)) => mf_fl fs fun fs => K (.inr (.inr (ci, fs)))
theorem mf_fc_eq {β : Type} (c : mm_C) (K : mm_C → β) : mf_fc c K = K c := by
  match c with
  | .inl (t, n, N) => rfl
  | .inr (.inl (t, rs)) => exact mf_fl_eq _ _
  | .inr (.inr (ci, fs)) => exact mf_fl_eq _ _
abbrev mf_S : Type := Nat × mm_L × List Value × mf_H
noncomputable def mf_one (E : my_E) (X : mm_X) (callee : Nat → List Value → mf_H → Option (mm_V × mf_H)) (M : mm_M) (pc : Nat) (L : mm_L) (st : List Value) (g : mf_H) : Option (mf_S ⊕ (mm_R × mf_H)) := match mm_lk M.1 pc with
  | none => none
  | some mi => match mgo_tab mi with
    | none => none
    | some f => match f E X (mf_rd X g.1) g.2.1 L st with
    | none => none
    | some (.inl (pc', L', st', none)) => some (.inl (pc', L', st', g))
    | some (.inl (pc', L', st', some (.inl (k, c)))) => mm_fN k fun k => mf_fc c fun c => match mf_g9 g.1 k with
      | some c0 => match Nat.beq (mm_sl c0) (mm_sl c) && Nat.ble (k + 1) 512 with
        | true => mf_s9 g.1 k c fun T => some (.inl (pc', L', st', (T, g.2)))
        | false => none
      | none => none
    | some (.inl (pc', L', st', some (.inr c))) => match Nat.ble (g.2.1 + 1) 512 with
      | true => mf_fc c fun c => mf_s9 g.1 g.2.1 c fun T => mm_fN (g.2.1 + 1) fun n => mm_fN (g.2.2 + mm_sl c) fun q => some (.inl (pc', L', st', (T, (n, q))))
      | false => none
    | some (.inr (.inl (j, as, r))) => match callee j as g with
      | none => none
      | some (.inl none, g') => some (.inl (mi.2.2.1, L, r, g'))
      | some (.inl (some v), g') => some (.inl (mi.2.2.1, L, v :: r, g'))
      | some (.inr ci, g') => match mm_hd M.2.2.2 pc ci with
        | some (some (t, k)) => some (.inr (.inl (t, (mm_kill L k).set k none, [.int 1]), g'))
        | some none => some (.inr (.inr ci, g'))
        | none => none
    | some (.inr (.inr (.inl _))) => some (.inr (.inl (pc, L, st), g))
    | some (.inr (.inr (.inr ci))) => match M.2.2.2 with
      | [] => match Nat.ble (g.2.1 + 1) 512 with
        | true => mf_s9 g.1 g.2.1 (.inr (.inr (ci, []))) fun T => mm_fN (g.2.1 + 1) fun n => mm_fN (g.2.2 + mm_sl (.inr (.inr (ci, [])))) fun q => some (.inr (.inr ci, (T, (n, q))))
        | false => none
      | _ => none
noncomputable def mf_exe (E : my_E) (X : mm_X) (callee : Nat → List Value → mf_H → Option (mm_V × mf_H)) (M : mm_M) : Nat → Nat → mm_L → List Value → mf_H → Option (mm_R × mf_H)
  | 0, _, _, _, _ => none
  | n + 1, pc, L, st, g => match mf_one E X callee M pc L st g with
    | none => none
    | some (.inl (pc', L', st', g')) => mf_exe E X callee M n pc' L' st' g'
    | some (.inr q) => some q
noncomputable def mf_pre (E : my_E) (X : mm_X) (callee : Nat → List Value → mf_H → Option (mm_V × mf_H)) (M : mm_M) : Nat → mf_S → Option mf_S
  | 0, s => some s
  | n + 1, s => match mf_one E X callee M s.1 s.2.1 s.2.2.1 s.2.2.2 with
    | some (.inl s') => mf_pre E X callee M n s'
    | _ => none
noncomputable def mf_run (E : my_E) (X : mm_X) (P : Nat → Option mm_M) (fuel : Nat) : Nat → Nat → List Value → mf_H → Option (mm_V × mf_H)
  | 0, _, _, _ => none
  | d + 1, j, as, g => match P j with
    | none => none
    | some M => match Nat.ble (mm_cats as) M.2.1 with
      | false => none
      | true => match mf_exe E X (mf_run E X P fuel d) M fuel 0 (mm_entry M.2.1 as) [] g with
        | some (.inl (_, _, st), g') => match my_ans E M.2.2.1 st with
          | some v => some (v, g')
          | none => none
        | some (.inr ci, g') => some (.inr ci, g')
        | none => none
def mf_R (g : mf_H) (h : mm_H) : Prop := h.length = g.2.1 ∧ mm_sum h = g.2.2 ∧ ∀ k, mf_g9 g.1 k = h[k]?
theorem mf_rd_eq {X : mm_X} {g : mf_H} {h : mm_H} (R : mf_R g h) : mf_rd X g.1 = mm_rd X.1 h := by
  funext a
  unfold mf_rd mm_rd
  rw [mm_fN_eq, R.2.2 (a - 64)]
  cases Nat.ble 64 a <;> rfl
theorem mf_R_set {g : mf_H} {h : mm_H} (R : mf_R g h) {k : Nat} {c0 c : mm_C} (e : h[k]? = some c0) (hs : mm_sl c0 = mm_sl c) (hk : k < 512) : mf_R (mf_u9 g.1 k c, g.2) (h.set k c) := by
  refine ⟨by rw [List.length_set]; exact R.1, by rw [mm_sum_set _ _ _ _ e hs]; exact R.2.1, fun j => ?_⟩
  show mf_g9 (mf_u9 g.1 k c) j = _
  rw [mf_u9_g _ _ _ _ hk, R.2.2 j]
  have hl : k < h.length := (List.getElem?_eq_some_iff.mp e).1
  by_cases e2 : j = k
  · subst e2; rw [if_pos rfl, List.getElem?_set_self hl]
  · rw [if_neg e2, List.getElem?_set_ne (fun q => e2 q.symm)]
theorem mf_R_app {g : mf_H} {h : mm_H} (R : mf_R g h) {c : mm_C} (hk : g.2.1 < 512) : mf_R (mf_u9 g.1 g.2.1 c, (g.2.1 + 1, g.2.2 + mm_sl c)) (h ++ [c]) := by
  refine ⟨by rw [List.length_append, R.1]; rfl, by rw [mm_sum_push, R.2.1], fun j => ?_⟩
  show mf_g9 (mf_u9 g.1 g.2.1 c) j = _
  rw [mf_u9_g _ _ _ _ hk, R.2.2 j]
  by_cases e2 : j = g.2.1
  · rw [if_pos e2, e2, ← R.1, List.getElem?_append_right (Nat.le_refl _), Nat.sub_self]; rfl
  · rw [if_neg e2]
    by_cases e3 : j < h.length
    · rw [List.getElem?_append_left e3]
    · rw [List.getElem?_append_right (by omega), List.getElem?_eq_none (by omega), List.getElem?_eq_none (by rw [List.length_singleton]; have := R.1; omega)]
def mf_oo (o : Option (mf_S ⊕ (mm_R × mf_H))) (q : Option (my_S ⊕ (mm_R × mm_H))) : Prop := match o with
  | none => True
  | some (.inl s) => ∃ h', q = some (.inl (s.1, s.2.1, s.2.2.1, h')) ∧ mf_R s.2.2.2 h'
  | some (.inr r) => ∃ h', q = some (.inr (r.1, h')) ∧ mf_R r.2 h'
def mf_cl (callee : Nat → List Value → mf_H → Option (mm_V × mf_H)) (callee' : Nat → List Value → mm_H → Option (mm_V × mm_H)) : Prop := ∀ j as g h v g1, mf_R g h → callee j as g = some (v, g1) → ∃ h1, callee' j as h = some (v, h1) ∧ mf_R g1 h1
theorem mf_b1 {a b : Bool} (h : (a && b) = true) : a = true ∧ b = true := by
  rw [Bool.and_eq_true] at h
  exact h
theorem mf_one_ok {E : my_E} {X : mm_X} {callee : Nat → List Value → mf_H → Option (mm_V × mf_H)} {callee' : Nat → List Value → mm_H → Option (mm_V × mm_H)} (hc : mf_cl callee callee') {M : mm_M} {pc : Nat} {L : mm_L} {st : List Value} {g : mf_H} {h : mm_H} (R : mf_R g h) : mf_oo (mf_one E X callee M pc L st g) (my_one E X callee' M pc L st h) := by
  unfold mf_one my_one
  cases hlk : mm_lk M.1 pc with
  | none => exact trivial
  | some mi =>
    dsimp only
    cases hf : mgo_tab mi with
    | none => exact trivial
    | some f =>
      dsimp only
      obtain ⟨f0, e1, e2⟩ := mgo_tab_ok hf E X h L st
      rw [e1, mf_rd_eq R, ← R.1, e2]
      dsimp only
      cases hs : f0 E X h L st with
      | none => exact trivial
      | some a =>
        match a with
        | .inl (pc2, L2, st2, none) => exact ⟨h, rfl, R⟩
        | .inl (pc2, L2, st2, some (.inl (k, c))) =>
          dsimp only
          rw [mm_fN_eq, mf_fc_eq, R.2.2 k]
          cases hk : h[k]? with
          | none => exact trivial
          | some c0 =>
            dsimp only
            split
            · rename_i hb
              obtain ⟨b1, b2⟩ := mf_b1 hb
              rw [mf_s9_eq, b1]
              exact ⟨_, rfl, mf_R_set R hk (Nat.beq_eq.mp b1) (Nat.le_of_ble_eq_true b2)⟩
            · exact trivial
        | .inl (pc2, L2, st2, some (.inr c)) =>
          dsimp only
          split
          · rename_i hb
            rw [mf_fc_eq, mf_s9_eq, mm_fN_eq, mm_fN_eq]
            have hb := Nat.le_of_ble_eq_true hb
            rw [R.1] at hb ⊢
            exact ⟨_, rfl, mf_R_app R hb⟩
          · exact trivial
        | .inr (.inl (j, as, r)) =>
          dsimp only
          cases hcc : callee j as g with
          | none => exact trivial
          | some q =>
            obtain ⟨v, g1⟩ := q
            obtain ⟨h1, k1, k2⟩ := hc _ _ _ _ _ _ R hcc
            rw [k1]
            match v with
            | .inl none => exact ⟨h1, rfl, k2⟩
            | .inl (some x) => exact ⟨h1, rfl, k2⟩
            | .inr ci =>
              dsimp only
              cases hd : mm_hd M.2.2.2 pc ci with
              | none => exact trivial
              | some o =>
                cases o with
                | none => exact ⟨h1, rfl, k2⟩
                | some tk => exact ⟨h1, rfl, k2⟩
        | .inr (.inr (.inl u)) => exact ⟨h, rfl, R⟩
        | .inr (.inr (.inr ci)) =>
          dsimp only
          cases hM : M.2.2.2 with
          | nil =>
            dsimp only
            split
            · rename_i hb
              rw [mf_s9_eq, mm_fN_eq, mm_fN_eq]
              have hb := Nat.le_of_ble_eq_true hb
              rw [R.1] at hb ⊢
              exact ⟨_, rfl, mf_R_app R hb⟩
            · exact trivial
          | cons z zs => exact trivial
theorem mf_exe_ok {E : my_E} {X : mm_X} {callee : Nat → List Value → mf_H → Option (mm_V × mf_H)} {callee' : Nat → List Value → mm_H → Option (mm_V × mm_H)} (hc : mf_cl callee callee') {M : mm_M} : ∀ n pc L st g h r g1, mf_R g h → mf_exe E X callee M n pc L st g = some (r, g1) → ∃ h1, my_exe E X callee' M n pc L st h = some (r, h1) ∧ mf_R g1 h1 := by
  intro n
  induction n with
  | zero => intro pc L st g h r g1 _ he; cases he
  | succ n ih =>
    intro pc L st g h r g1 R he
    have K := mf_one_ok (E := E) (X := X) (M := M) (pc := pc) (L := L) (st := st) hc R
    simp only [mf_exe] at he
    simp only [my_exe]
    cases ho : mf_one E X callee M pc L st g with
    | none => rw [ho] at he; cases he
    | some q =>
      rw [ho] at he K
      match q, he, K with
      | .inl (pc2, L2, st2, g2), he, K =>
        obtain ⟨h', e, R'⟩ := K
        rw [e]
        exact ih _ _ _ _ _ _ _ R' he
      | .inr (r0, g0), he, K =>
        cases he
        obtain ⟨h', e, R'⟩ := K
        rw [e]
        exact ⟨h', rfl, R'⟩
theorem mf_pre_ok {E : my_E} {X : mm_X} {callee : Nat → List Value → mf_H → Option (mm_V × mf_H)} {callee' : Nat → List Value → mm_H → Option (mm_V × mm_H)} (hc : mf_cl callee callee') {M : mm_M} : ∀ n (s : mf_S) h s1, mf_R s.2.2.2 h → mf_pre E X callee M n s = some s1 → ∃ h1, my_pre E X callee' M n (s.1, s.2.1, s.2.2.1, h) = some (s1.1, s1.2.1, s1.2.2.1, h1) ∧ mf_R s1.2.2.2 h1 := by
  intro n
  induction n with
  | zero => intro s h s1 R he; cases he; exact ⟨h, rfl, R⟩
  | succ n ih =>
    intro s h s1 R he
    have K := mf_one_ok (E := E) (X := X) (M := M) (pc := s.1) (L := s.2.1) (st := s.2.2.1) hc R
    simp only [mf_pre] at he
    simp only [my_pre]
    split at he
    · rename_i s' ho
      rw [ho] at K
      obtain ⟨h', e, R'⟩ := K
      rw [e]
      exact ih _ _ _ R' he
    · cases he
theorem mf_run_ok {E : my_E} {X : mm_X} {P : Nat → Option mm_M} {fuel : Nat} : ∀ d, mf_cl (mf_run E X P fuel d) (my_run E X P fuel d) := by
  intro d
  induction d with
  | zero => intro j as g h v g1 _ he; cases he
  | succ d ih =>
    intro j as g h v g1 R he
    simp only [mf_run] at he
    simp only [my_run]
    cases hM : P j with
    | none => rw [hM] at he; cases he
    | some M =>
      rw [hM] at he
      dsimp only at he ⊢
      cases hb : Nat.ble (mm_cats as) M.2.1 with
      | false => rw [hb] at he; cases he
      | true =>
        rw [hb] at he
        dsimp only at he ⊢
        cases hx : mf_exe E X (mf_run E X P fuel d) M fuel 0 (mm_entry M.2.1 as) [] g with
        | none => rw [hx] at he; cases he
        | some q =>
          obtain ⟨r, g2⟩ := q
          obtain ⟨h2, k1, k2⟩ := mf_exe_ok ih fuel 0 _ _ _ _ r g2 R hx
          rw [hx] at he
          rw [k1]
          match r, he with
          | .inl (pc, L, st), he =>
            dsimp only at he ⊢
            cases ha : my_ans E M.2.2.1 st with
            | none => rw [ha] at he; cases he
            | some w =>
              rw [ha] at he
              cases he
              exact ⟨h2, rfl, k2⟩
          | .inr ci, he =>
            cases he
            exact ⟨h2, rfl, k2⟩
