/-! ===== the law's runs from there (decided) ===== -/
noncomputable def mf_ok (E : my_E) : Bool := match mf_exe E mz_X (mf_c E) mz_M 100000 23 mf_L0 [] mf_h0 with
  | some (.inl (pc, _, [.int z]), g) => Nat.beq pc 2260 && (mm_eq z 1 && (Nat.ble g.2.1 600002 && Nat.ble g.2.2 7302232))
  | _ => false
noncomputable def mf_op (o : mz_O) : Bool := (mz_all o.2.2.2).all fun cs => mf_ok (mz_E o.2.1 o.2.2.1 o.1 cs)
set_option maxRecDepth 1000000 in
theorem mz_L5 : (List.range 6).all (fun L => mf_ok (true, [], [], [], some L)) = true := by decide +kernel
def mz_og0 : List mz_O := [(48, (true, (false, []))), (49, (true, (false, []))), (50, (true, (false, []))), (51, (true, (false, []))), (52, (true, (false, []))), (53, (true, (false, []))), (54, (true, (false, []))), (55, (true, (false, []))), (56, (true, (false, []))), (57, (true, (false, []))), (58, (true, (false, []))), (59, (true, (false, []))), (60, (true, (false, []))), (61, (true, (false, []))), (62, (true, (false, []))), (63, (true, (false, [])))]
set_option maxRecDepth 1000000 in
theorem mz_ok0 : mz_og0.all mf_op = true := by decide +kernel
def mz_ogs0 : List mz_O := [(0, (true, (false, [0, 0, 0, 0, 0]))), (1, (true, (false, [2]))), (4, (true, (false, []))), (5, (true, (false, []))), (6, (true, (false, []))), (7, (true, (false, [11])))]
set_option maxRecDepth 1000000 in
theorem mz_oks0 : mz_ogs0.all mf_op = true := by decide +kernel
def mz_ogs1 : List mz_O := [(8, (true, (false, [2, 2, 7]))), (9, (true, (false, [2]))), (10, (true, (false, []))), (11, (true, (false, [2, 3]))), (12, (true, (false, [2]))), (13, (true, (false, [2])))]
set_option maxRecDepth 1000000 in
theorem mz_oks1 : mz_ogs1.all mf_op = true := by decide +kernel
def mz_ogs2 : List mz_O := [(14, (true, (false, [3]))), (15, (true, (false, [3, 3]))), (16, (true, (false, [3]))), (17, (true, (false, []))), (18, (true, (false, []))), (19, (true, (false, [])))]
set_option maxRecDepth 1000000 in
theorem mz_oks2 : mz_ogs2.all mf_op = true := by decide +kernel
def mz_ogs3 : List mz_O := [(20, (true, (false, []))), (21, (true, (false, []))), (22, (true, (false, []))), (23, (true, (false, [2, 2]))), (24, (true, (false, []))), (29, (true, (false, [])))]
set_option maxRecDepth 1000000 in
theorem mz_oks3 : mz_ogs3.all mf_op = true := by decide +kernel
def mz_ogs4 : List mz_O := [(30, (true, (false, [2]))), (31, (true, (false, [2, 4]))), (32, (true, (false, [8]))), (33, (true, (false, []))), (34, (false, (false, []))), (35, (false, (false, [])))]
set_option maxRecDepth 1000000 in
theorem mz_oks4 : mz_ogs4.all mf_op = true := by decide +kernel
def mz_ogs5 : List mz_O := [(41, (true, (false, [3]))), (42, (true, (false, [2]))), (43, (true, (false, []))), (44, (true, (false, [2]))), (45, (true, (false, []))), (46, (true, (false, [])))]
set_option maxRecDepth 1000000 in
theorem mz_oks5 : mz_ogs5.all mf_op = true := by decide +kernel
def mz_ogs6 : List mz_O := [(47, (true, (false, [])))]
set_option maxRecDepth 1000000 in
theorem mz_oks6 : mz_ogs6.all mf_op = true := by decide +kernel
