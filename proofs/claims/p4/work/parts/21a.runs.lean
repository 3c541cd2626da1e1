/-! ===== the law's runs over boxes: what is computed ===== -/
def mz_M : mm_M := (mm_law, 9, 2, [])
def mz_X : mm_X := (mm_ext, (0, fun _ => none), mm_stc, mm_fty)
def mz_E0 (md : Bool) : my_E := (md, [], [], [], none)
def mz_c (E : my_E) : Nat → List Value → mm_H → Option (mm_V × mm_H) := my_run E mz_X mm_P 1000000 60
/-- both constructors, the array of the answer, the count: up to the loop -/
def mz_s (md : Bool) : Option my_S := my_pre (mz_E0 md) mz_X (mz_c (mz_E0 md)) mz_M 13 (0, mm_entry 9 [.ref 0], [], [])
def mz_ok (q : Bool × my_E) : Bool := match mz_s q.1 with
  | none => false
  | some s => match my_exe q.2 mz_X (mz_c q.2) mz_M 100000 s.1 s.2.1 s.2.2.1 s.2.2.2 with
    | some (.inl (pc, _, [.int z]), h) => Nat.beq pc 2260 && (mm_eq z 1 && (Nat.ble h.length 600002 && Nat.ble (mm_sum h) 7302232))
    | _ => false
/-- kinds: 0 any number; K + 1: below 0, each of 0 to K - 1, K and above -/
def mz_val (j k c : Nat) : Value := match k with
  | 0 => .retAddr (j + 1)
  | K + 1 => match Nat.ble 1 c && Nat.ble c K with
    | true => .int (Int32.ofNat (c - 1))
    | false => .retAddr (j + 1)
def mz_ivs (j k c : Nat) : List (Nat × Nat × Nat) := match k with
  | 0 => []
  | K + 1 => match c with
    | 0 => [(j, 0, 2147483647)]
    | c + 1 => match Nat.ble (c + 1) K with
      | true => []
      | false => [(j, 2147483648 + K, 4294967295)]
def mz_vs (j : Nat) : List (Nat × Nat) → List Value
  | [] => []
  | q :: r => mz_val j q.1 q.2 :: mz_vs (j + 1) r
def mz_iv (j : Nat) : List (Nat × Nat) → List (Nat × Nat × Nat)
  | [] => []
  | q :: r => mz_ivs j q.1 q.2 ++ mz_iv (j + 1) r
/-- persons: a name and -2, by the name 11 -/
def mz_pv (pers : Bool) (cs : List (Nat × Nat)) : List (Nat × Nat × Nat) := match pers, cs with
  | true, (3, 0) :: _ => [(11, 0, 2147483647)]
  | true, (3, 3) :: _ => [(11, 2147483650, 4294967295)]
  | _, _ => []
def mz_E (md pers : Bool) (op : Nat) (cs : List (Nat × Nat)) : my_E := (md, mz_iv 1 cs ++ mz_pv pers cs, [(0, 63, .int (Int32.ofNat op)), (1, 4294967294, .retAddr 12)], .retAddr 1 :: mz_vs 1 cs, some 6)
def mz_cs (k : Nat) : List Nat := match k with
  | 0 => [0]
  | K + 1 => List.range (K + 2)
def mz_all : List Nat → List (List (Nat × Nat))
  | [] => [[]]
  | k :: r => (mz_cs k).flatMap fun c => (mz_all r).map fun t => (k, c) :: t
/-- an operation: its number, doubles, persons, the arguments' kinds -/
abbrev mz_O : Type := Nat × (Bool × (Bool × List Nat))
def mz_op (o : mz_O) : Bool := (mz_all o.2.2.2).all fun cs => mz_ok (o.2.1, mz_E o.2.1 o.2.2.1 o.1 cs)
