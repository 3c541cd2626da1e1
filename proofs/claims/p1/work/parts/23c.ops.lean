def mz_ogb2 : List mz_O := [(2, (true, (false, [])))]
set_option maxRecDepth 1000000 in
theorem mz_okb2 : mz_ogb2.all mf_op = true := by decide +kernel
def mz_ogb3 : List mz_O := [(3, (true, (false, [])))]
set_option maxRecDepth 1000000 in
theorem mz_okb3 : mz_ogb3.all mf_op = true := by decide +kernel
def mz_ogb25 : List mz_O := [(25, (true, (false, [])))]
set_option maxRecDepth 1000000 in
theorem mz_okb25 : mz_ogb25.all mf_op = true := by decide +kernel
def mz_ogb26 : List mz_O := [(26, (true, (false, [2])))]
set_option maxRecDepth 1000000 in
theorem mz_okb26 : mz_ogb26.all mf_op = true := by decide +kernel
def mz_ogb27 : List mz_O := [(27, (true, (true, [3])))]
set_option maxRecDepth 1000000 in
theorem mz_okb27 : mz_ogb27.all mf_op = true := by decide +kernel
def mz_ogb28 : List mz_O := [(28, (true, (false, [2])))]
set_option maxRecDepth 1000000 in
theorem mz_okb28 : mz_ogb28.all mf_op = true := by decide +kernel
def mz_ogb36 : List mz_O := [(36, (true, (false, [])))]
set_option maxRecDepth 1000000 in
theorem mz_okb36 : mz_ogb36.all mf_op = true := by decide +kernel
def mz_ogb37 : List mz_O := [(37, (true, (false, [2])))]
set_option maxRecDepth 1000000 in
theorem mz_okb37 : mz_ogb37.all mf_op = true := by decide +kernel
def mz_ogb38 : List mz_O := [(38, (true, (true, [3])))]
set_option maxRecDepth 1000000 in
theorem mz_okb38 : mz_ogb38.all mf_op = true := by decide +kernel
def mz_ogb39 : List mz_O := [(39, (true, (false, [2, 2])))]
set_option maxRecDepth 1000000 in
theorem mz_okb39 : mz_ogb39.all mf_op = true := by decide +kernel
def mz_ogb40 : List mz_O := [(40, (true, (false, [2])))]
set_option maxRecDepth 1000000 in
theorem mz_okb40 : mz_ogb40.all mf_op = true := by decide +kernel
def mz_ops : List mz_O := mz_og0 ++ mz_ogs0 ++ mz_ogs1 ++ mz_ogs2 ++ mz_ogs3 ++ mz_ogs4 ++ mz_ogs5 ++ mz_ogs6 ++ mz_ogb2 ++ mz_ogb3 ++ mz_ogb25 ++ mz_ogb26 ++ mz_ogb27 ++ mz_ogb28 ++ mz_ogb36 ++ mz_ogb37 ++ mz_ogb38 ++ mz_ogb39 ++ mz_ogb40
theorem mz_opsok : mz_ops.all mf_op = true := by
  simp only [mz_ops, List.all_append, Bool.and_eq_true]
  exact ⟨⟨⟨⟨⟨⟨⟨⟨⟨⟨⟨⟨⟨⟨⟨⟨⟨⟨mz_ok0, mz_oks0⟩, mz_oks1⟩, mz_oks2⟩, mz_oks3⟩, mz_oks4⟩, mz_oks5⟩, mz_oks6⟩, mz_okb2⟩, mz_okb3⟩, mz_okb25⟩, mz_okb26⟩, mz_okb27⟩, mz_okb28⟩, mz_okb36⟩, mz_okb37⟩, mz_okb38⟩, mz_okb39⟩, mz_okb40⟩
theorem mz_cover : (List.range 64).all (fun n => mz_ops.any (fun o => Nat.beq o.1 n && (Nat.ble o.2.2.2.length 5 && (!o.2.2.1 || decide (o.2.2.2 = [3]))))) = true := by decide +kernel
theorem mz_A : ∀ md, mf_A md = true := fun md => by
  cases md
  · exact mf_A0
  · exact mf_A1
