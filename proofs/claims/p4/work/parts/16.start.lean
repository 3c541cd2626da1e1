/-! ===== the start: what the Statement gives of constants and statics ===== -/
def mx_flat : List Jvm.Cond := flatC (Jvm.Cond.and given_1 narrow_1)
/-- a text by its first place: class, entry, its number among the externals, its place among the premises -/
def mx_prim : List (String × Nat × Nat × Nat) := [("WhoKnows", 68, 4, 320), ("WhoKnows", 374, 6, 340), ("WhoKnows", 376, 8, 347), ("WhoKnows", 378, 10, 356), ("WhoKnows", 380, 12, 365), ("WhoKnows", 382, 14, 372), ("WhoKnows", 384, 16, 382), ("WhoKnows", 386, 18, 389), ("WhoKnows$Source", 91, 20, 395), ("WhoKnows$DescriptionReader", 98, 22, 403), ("WhoKnows$DescriptionReader", 57, 24, 412), ("WhoKnows$DescriptionReader", 65, 26, 419), ("WhoKnows$DescriptionReader", 70, 28, 429), ("WhoKnows$Formula", 65, 30, 540), ("WhoKnows$Formula", 67, 32, 549), ("java/util/Arrays", 59, 34, 505), ("WhoKnows", 388, 36, 563), ("WhoKnows", 390, 38, 575), ("WhoKnows", 392, 40, 582), ("WhoKnows", 394, 42, 593), ("WhoKnows", 396, 44, 601), ("WhoKnows", 312, 46, 610), ("WhoKnowsModel", 452, 48, 784), ("WhoKnowsModel", 466, 50, 811), ("WhoKnowsModel", 468, 52, 821), ("WhoKnowsModel", 470, 54, 831), ("WhoKnowsModel", 472, 56, 839)]
/-- every place of a text: class, entry, number, place of its word, text, how it is the first place (2: it is; 0, 1: by the premise at the place) , the first place -/
def mx_site : List (String × Nat × Nat × Nat × String × Nat × Nat × String × Nat) := [("WhoKnows", 68, 4, 393, "facts a;person p", 2, 0, "WhoKnows", 68), ("WhoKnows", 374, 6, 547, "not", 2, 0, "WhoKnows", 374), ("WhoKnows", 376, 8, 548, "knows", 2, 0, "WhoKnows", 376), ("WhoKnows", 378, 10, 549, "maybe", 2, 0, "WhoKnows", 378), ("WhoKnows", 380, 12, 550, "all", 2, 0, "WhoKnows", 380), ("WhoKnows", 382, 14, 551, "common", 2, 0, "WhoKnows", 382), ("WhoKnows", 384, 16, 552, "and", 2, 0, "WhoKnows", 384), ("WhoKnows", 386, 18, 553, "or", 2, 0, "WhoKnows", 386), ("WhoKnows$Source", 91, 20, 558, "that", 2, 0, "WhoKnows$Source", 91), ("WhoKnows$DescriptionReader", 98, 22, 574, "facts", 2, 0, "WhoKnows$DescriptionReader", 98), ("WhoKnows$DescriptionReader", 57, 24, 624, "law", 2, 0, "WhoKnows$DescriptionReader", 57), ("WhoKnows$DescriptionReader", 65, 26, 736, "person", 2, 0, "WhoKnows$DescriptionReader", 65), ("WhoKnows$DescriptionReader", 70, 28, 750, "real", 2, 0, "WhoKnows$DescriptionReader", 70), ("java/util/Arrays", 59, 34, 1346, ")", 2, 0, "java/util/Arrays", 59), ("WhoKnows$Formula", 65, 30, 1383, " and ", 2, 0, "WhoKnows$Formula", 65), ("WhoKnows$Formula", 67, 32, 1384, " or ", 2, 0, "WhoKnows$Formula", 67), ("WhoKnows$Formula", 69, 34, 1385, ")", 1, 562, "java/util/Arrays", 59), ("WhoKnows", 388, 36, 1516, "announce", 2, 0, "WhoKnows", 388), ("WhoKnows", 390, 38, 1517, "say", 2, 0, "WhoKnows", 390), ("WhoKnows", 392, 40, 1518, "whisper", 2, 0, "WhoKnows", 392), ("WhoKnows", 394, 42, 1519, "show", 2, 0, "WhoKnows", 394), ("WhoKnows", 396, 44, 1520, "round", 2, 0, "WhoKnows", 396), ("WhoKnows", 312, 46, 1785, "x ", 2, 0, "WhoKnows", 312), ("WhoKnowsModel", 251, 22, 1956, "facts", 1, 625, "WhoKnows$DescriptionReader", 98), ("WhoKnowsModel", 170, 6, 1994, "not", 1, 633, "WhoKnows", 374), ("WhoKnowsModel", 172, 16, 1995, "and", 1, 641, "WhoKnows", 384), ("WhoKnowsModel", 174, 18, 1996, "or", 1, 648, "WhoKnows", 386), ("WhoKnowsModel", 176, 8, 1997, "knows", 1, 658, "WhoKnows", 376), ("WhoKnowsModel", 178, 10, 1998, "maybe", 1, 668, "WhoKnows", 378), ("WhoKnowsModel", 180, 12, 1999, "all", 1, 676, "WhoKnows", 380), ("WhoKnowsModel", 182, 14, 2000, "common", 1, 687, "WhoKnows", 382), ("WhoKnowsModel", 184, 20, 2001, "that", 1, 696, "WhoKnows$Source", 91), ("WhoKnowsModel", 268, 24, 2022, "law", 1, 704, "WhoKnows$DescriptionReader", 57), ("WhoKnowsModel", 276, 26, 2129, "person", 1, 715, "WhoKnows$DescriptionReader", 65), ("WhoKnowsModel", 281, 28, 2138, "real", 1, 724, "WhoKnows$DescriptionReader", 70), ("WhoKnowsModel", 331, 36, 2162, "announce", 1, 737, "WhoKnows", 388), ("WhoKnowsModel", 333, 38, 2163, "say", 1, 745, "WhoKnows", 390), ("WhoKnowsModel", 335, 40, 2164, "whisper", 1, 757, "WhoKnows", 392), ("WhoKnowsModel", 337, 42, 2165, "show", 1, 766, "WhoKnows", 394), ("WhoKnowsModel", 339, 44, 2166, "round", 1, 776, "WhoKnows", 396), ("WhoKnowsModel", 434, 46, 2435, "x ", 1, 783, "WhoKnows", 312), ("WhoKnowsModel", 452, 48, 2468, "not ", 2, 0, "WhoKnowsModel", 452), ("WhoKnowsModel", 458, 30, 2473, " and ", 1, 801, "WhoKnows$Formula", 65), ("WhoKnowsModel", 464, 32, 2478, " or ", 1, 810, "WhoKnows$Formula", 67), ("WhoKnowsModel", 466, 50, 2479, "knows ", 2, 0, "WhoKnowsModel", 466), ("WhoKnowsModel", 468, 52, 2480, "maybe ", 2, 0, "WhoKnowsModel", 468), ("WhoKnowsModel", 470, 54, 2481, "all ", 2, 0, "WhoKnowsModel", 470), ("WhoKnowsModel", 472, 56, 2482, "common ", 2, 0, "WhoKnowsModel", 472)]
def mx_val (own : String) (x : Nat) : Term := .field (.string own x) "java/lang/String" "value" "[B"
def mx_scs (own : String) (x n N : Nat) : List Jvm.Cond := [.exactly (.string own x) "java/lang/String", .eq (.field (.string own x) "java/lang/String" "coder" "B") (.int 0), .arrayOf (mx_val own x) .byte, .eq (.length (mx_val own x)) (.int (Int32.ofNat n))] ++ (List.range n).map fun j => .eq (.elem (mx_val own x) (.int (Int32.ofNat j))) (.int (Int32.ofNat (mm_ag 32 N j)))
def mx_sck (q : String × Nat × Nat × Nat) : Bool := match mm_ext q.2.2.1, mm_ext (q.2.2.1 + 1) with
  | some (.inr (.inr (0, [.ref a, .int z]))), some (.inl (2, n, N)) => decide (a = q.2.2.1 + 1) && (decide (z = 0) && (Nat.ble n 100000 && decide ((mx_flat.drop q.2.2.2).take (4 + n) = mx_scs q.1 q.2.1 n N)))
  | _, _ => false
def mx_eck (q : String × Nat × Nat × Nat × String × Nat × Nat × String × Nat) : Bool := match q with
  | (own, x, k, p, tx, how, pe, own0, x0) => decide (mt_tbl[p]? = some (.stringRef own x tx)) && (mx_prim.any (fun r => decide (r.1 = own0 ∧ r.2.1 = x0 ∧ r.2.2.1 = k)) && (match how with
    | 0 => decide (mx_flat[pe]? = some (.eq (.string own x) (.string own0 x0)))
    | 1 => decide (mx_flat[pe]? = some (.eq (.string own0 x0) (.string own x)))
    | _ => decide (own = own0 ∧ x = x0)))
def mx_arr (C n d : String) (ty : FieldType) (len N p : Nat) : Bool := decide ((mx_flat.drop p).take (2 + len) = [.arrayOf (.static C n d) ty, .eq (.length (.static C n d)) (.int (Int32.ofNat len))] ++ (List.range len).map fun j => .eq (.elem (.static C n d) (.int (Int32.ofNat j))) (.int (Int32.ofNat (mm_ag 32 N j))))
set_option maxRecDepth 100000 in
theorem mx_P1 : mx_prim.all mx_sck = true := by decide +kernel
set_option maxRecDepth 100000 in
theorem mx_P2 : mx_site.all mx_eck = true := by decide +kernel
theorem mx_P3 : mm_sites.all (fun q => mx_site.any (fun r => decide (r.1 = q.1 ∧ r.2.1 = q.2.1 ∧ r.2.2.1 = q.2.2))) = true := by decide +kernel
set_option maxRecDepth 100000 in
theorem mx_A1 : (match mm_ext 1 with
  | some (.inl (_, len, N)) => mx_arr "WhoKnows" "HOLDING" "[I" .int len N 10 && Nat.ble len 100000
  | _ => false) = true := by decide +kernel
set_option maxRecDepth 100000 in
theorem mx_A2 : (match mm_ext 2 with
  | some (.inl (_, len, N)) => mx_arr "java/lang/Integer" "DigitTens" "[B" .byte len N 121 && Nat.ble len 100000
  | _ => false) = true := by decide +kernel
set_option maxRecDepth 100000 in
theorem mx_A3 : (match mm_ext 3 with
  | some (.inl (_, len, N)) => mx_arr "java/lang/Integer" "DigitOnes" "[B" .byte len N 18 && Nat.ble len 100000
  | _ => false) = true := by decide +kernel
set_option maxRecDepth 100000 in
theorem mx_I0 : mx_flat[4]? = some (.eq (.static "java/lang/String" "COMPACT_STRINGS" "Z") (.int 1)) := by decide +kernel
set_option maxRecDepth 100000 in
theorem mx_I1 : mx_flat[6]? = some (.eq (.static "java/lang/StringUTF16" "$assertionsDisabled" "Z") (.int 1)) := by decide +kernel
set_option maxRecDepth 100000 in
theorem mx_I2 : mx_flat[7]? = some (.eq (.static "java/lang/StringUTF16" "HI_BYTE_SHIFT" "I") (.int 0)) := by decide +kernel
set_option maxRecDepth 100000 in
theorem mx_I3 : mx_flat[8]? = some (.eq (.static "java/lang/StringUTF16" "LO_BYTE_SHIFT" "I") (.int 8)) := by decide +kernel
set_option maxRecDepth 100000 in
theorem mx_F0 : mx_flat[5]? = some (.isRef (.static "jdk/internal/util/Preconditions" "SIOOBE_FORMATTER" "Ljava/util/function/BiFunction;")) := by decide +kernel
