theorem mx_Yall : ∀ j, j < 413 → mm_yck j = true := by
  intro j hj
  by_cases h0 : j < 20
  · exact List.all_eq_true.mp mx_Y0 j (List.mem_range'_1.mpr ⟨by omega, by omega⟩)
  by_cases h1 : j < 40
  · exact List.all_eq_true.mp mx_Y1 j (List.mem_range'_1.mpr ⟨by omega, by omega⟩)
  by_cases h2 : j < 60
  · exact List.all_eq_true.mp mx_Y2 j (List.mem_range'_1.mpr ⟨by omega, by omega⟩)
  by_cases h3 : j < 80
  · exact List.all_eq_true.mp mx_Y3 j (List.mem_range'_1.mpr ⟨by omega, by omega⟩)
  by_cases h4 : j < 100
  · exact List.all_eq_true.mp mx_Y4 j (List.mem_range'_1.mpr ⟨by omega, by omega⟩)
  by_cases h5 : j < 120
  · exact List.all_eq_true.mp mx_Y5 j (List.mem_range'_1.mpr ⟨by omega, by omega⟩)
  by_cases h6 : j < 140
  · exact List.all_eq_true.mp mx_Y6 j (List.mem_range'_1.mpr ⟨by omega, by omega⟩)
  by_cases h7 : j < 160
  · exact List.all_eq_true.mp mx_Y7 j (List.mem_range'_1.mpr ⟨by omega, by omega⟩)
  by_cases h8 : j < 180
  · exact List.all_eq_true.mp mx_Y8 j (List.mem_range'_1.mpr ⟨by omega, by omega⟩)
  by_cases h9 : j < 200
  · exact List.all_eq_true.mp mx_Y9 j (List.mem_range'_1.mpr ⟨by omega, by omega⟩)
  by_cases h10 : j < 220
  · exact List.all_eq_true.mp mx_Y10 j (List.mem_range'_1.mpr ⟨by omega, by omega⟩)
  by_cases h11 : j < 240
  · exact List.all_eq_true.mp mx_Y11 j (List.mem_range'_1.mpr ⟨by omega, by omega⟩)
  by_cases h12 : j < 260
  · exact List.all_eq_true.mp mx_Y12 j (List.mem_range'_1.mpr ⟨by omega, by omega⟩)
  by_cases h13 : j < 280
  · exact List.all_eq_true.mp mx_Y13 j (List.mem_range'_1.mpr ⟨by omega, by omega⟩)
  by_cases h14 : j < 300
  · exact List.all_eq_true.mp mx_Y14 j (List.mem_range'_1.mpr ⟨by omega, by omega⟩)
  by_cases h15 : j < 320
  · exact List.all_eq_true.mp mx_Y15 j (List.mem_range'_1.mpr ⟨by omega, by omega⟩)
  by_cases h16 : j < 340
  · exact List.all_eq_true.mp mx_Y16 j (List.mem_range'_1.mpr ⟨by omega, by omega⟩)
  by_cases h17 : j < 360
  · exact List.all_eq_true.mp mx_Y17 j (List.mem_range'_1.mpr ⟨by omega, by omega⟩)
  by_cases h18 : j < 380
  · exact List.all_eq_true.mp mx_Y18 j (List.mem_range'_1.mpr ⟨by omega, by omega⟩)
  by_cases h19 : j < 400
  · exact List.all_eq_true.mp mx_Y19 j (List.mem_range'_1.mpr ⟨by omega, by omega⟩)
  by_cases h20 : j < 413
  · exact List.all_eq_true.mp mx_Y20 j (List.mem_range'_1.mpr ⟨by omega, by omega⟩)
  omega
theorem mx_Zall : ∀ j, j < 413 → mm_zck j = true := by
  intro j hj
  by_cases h0 : j < 15
  · exact List.all_eq_true.mp mx_Z0 j (List.mem_range'_1.mpr ⟨by omega, by omega⟩)
  by_cases h1 : j < 30
  · exact List.all_eq_true.mp mx_Z1 j (List.mem_range'_1.mpr ⟨by omega, by omega⟩)
  by_cases h2 : j < 45
  · exact List.all_eq_true.mp mx_Z2 j (List.mem_range'_1.mpr ⟨by omega, by omega⟩)
  by_cases h3 : j < 60
  · exact List.all_eq_true.mp mx_Z3 j (List.mem_range'_1.mpr ⟨by omega, by omega⟩)
  by_cases h4 : j < 75
  · exact List.all_eq_true.mp mx_Z4 j (List.mem_range'_1.mpr ⟨by omega, by omega⟩)
  by_cases h5 : j < 90
  · exact List.all_eq_true.mp mx_Z5 j (List.mem_range'_1.mpr ⟨by omega, by omega⟩)
  by_cases h6 : j < 105
  · exact List.all_eq_true.mp mx_Z6 j (List.mem_range'_1.mpr ⟨by omega, by omega⟩)
  by_cases h7 : j < 120
  · exact List.all_eq_true.mp mx_Z7 j (List.mem_range'_1.mpr ⟨by omega, by omega⟩)
  by_cases h8 : j < 135
  · exact List.all_eq_true.mp mx_Z8 j (List.mem_range'_1.mpr ⟨by omega, by omega⟩)
  by_cases h9 : j < 150
  · exact List.all_eq_true.mp mx_Z9 j (List.mem_range'_1.mpr ⟨by omega, by omega⟩)
  by_cases h10 : j < 165
  · exact List.all_eq_true.mp mx_Z10 j (List.mem_range'_1.mpr ⟨by omega, by omega⟩)
  by_cases h11 : j < 180
  · exact List.all_eq_true.mp mx_Z11 j (List.mem_range'_1.mpr ⟨by omega, by omega⟩)
  by_cases h12 : j < 195
  · exact List.all_eq_true.mp mx_Z12 j (List.mem_range'_1.mpr ⟨by omega, by omega⟩)
  by_cases h13 : j < 210
  · exact List.all_eq_true.mp mx_Z13 j (List.mem_range'_1.mpr ⟨by omega, by omega⟩)
  by_cases h14 : j < 225
  · exact List.all_eq_true.mp mx_Z14 j (List.mem_range'_1.mpr ⟨by omega, by omega⟩)
  by_cases h15 : j < 240
  · exact List.all_eq_true.mp mx_Z15 j (List.mem_range'_1.mpr ⟨by omega, by omega⟩)
  by_cases h16 : j < 255
  · exact List.all_eq_true.mp mx_Z16 j (List.mem_range'_1.mpr ⟨by omega, by omega⟩)
  by_cases h17 : j < 270
  · exact List.all_eq_true.mp mx_Z17 j (List.mem_range'_1.mpr ⟨by omega, by omega⟩)
  by_cases h18 : j < 285
  · exact List.all_eq_true.mp mx_Z18 j (List.mem_range'_1.mpr ⟨by omega, by omega⟩)
  by_cases h19 : j < 300
  · exact List.all_eq_true.mp mx_Z19 j (List.mem_range'_1.mpr ⟨by omega, by omega⟩)
  by_cases h20 : j < 315
  · exact List.all_eq_true.mp mx_Z20 j (List.mem_range'_1.mpr ⟨by omega, by omega⟩)
  by_cases h21 : j < 330
  · exact List.all_eq_true.mp mx_Z21 j (List.mem_range'_1.mpr ⟨by omega, by omega⟩)
  by_cases h22 : j < 345
  · exact List.all_eq_true.mp mx_Z22 j (List.mem_range'_1.mpr ⟨by omega, by omega⟩)
  by_cases h23 : j < 360
  · exact List.all_eq_true.mp mx_Z23 j (List.mem_range'_1.mpr ⟨by omega, by omega⟩)
  by_cases h24 : j < 375
  · exact List.all_eq_true.mp mx_Z24 j (List.mem_range'_1.mpr ⟨by omega, by omega⟩)
  by_cases h25 : j < 390
  · exact List.all_eq_true.mp mx_Z25 j (List.mem_range'_1.mpr ⟨by omega, by omega⟩)
  by_cases h26 : j < 405
  · exact List.all_eq_true.mp mx_Z26 j (List.mem_range'_1.mpr ⟨by omega, by omega⟩)
  by_cases h27 : j < 413
  · exact List.all_eq_true.mp mx_Z27 j (List.mem_range'_1.mpr ⟨by omega, by omega⟩)
  omega
theorem mx_Yok : mm_Yok mm_nm mm_P mm_hh := by
  intro j y hy
  have hj : j < 413 := by
    have := (List.getElem?_eq_some_iff.mp hy).1
    rw [mx_len.1] at this
    exact this
  have h1 := mx_Yall j hj
  unfold mm_yck at h1
  rw [hy] at h1
  split at h1
  · rename_i y' M k e1 e2 e3
    cases e1
    simp only [Bool.and_eq_true, decide_eq_true_eq, Nat.ble_eq] at h1
    obtain ⟨g1, g2, g3, g4, g5⟩ := h1
    refine ⟨M, e2, fun w hw => ?_, g3, g4, g5⟩
    obtain ⟨w0, hw0⟩ : ∃ w0, mm_wsY y M.2.1 (mm_hh j) = w0 :: mt_g := ⟨_, rfl⟩
    rw [hw0] at hw g1 g2
    rcases List.mem_cons.mp hw with rfl | hw
    · exact List.mem_filter.mpr ⟨List.mem_of_getElem? g1, g2⟩
    · exact hw
  · cases h1
theorem mx_Zok : mm_Zok mm_nm mm_P mm_hh := by
  intro j y M hy hM
  have hj : j < 413 := by
    have := (List.getElem?_eq_some_iff.mp hy).1
    rw [mx_len.1] at this
    exact this
  have h1 := mx_Zall j hj
  unfold mm_zck at h1
  rw [hy, hM] at h1
  simp only [Bool.and_eq_true, Bool.or_eq_true, Bool.not_eq_true', List.isEmpty_iff] at h1
  obtain ⟨g1, g2, g3, g4⟩ := h1
  refine ⟨fun mi hmi => ?_, g2, g3, fun z => ?_⟩
  · have h2 := List.all_eq_true.mp g1 mi hmi
    simp only [Bool.and_eq_true, Bool.or_eq_true, Bool.not_eq_true'] at h2
    refine ⟨h2.1, fun z => ?_⟩
    rcases h2.2 with q | q
    · rw [z] at q; cases q
    · exact q
  · rcases g4 with q | q
    · rw [z] at q; cases q
    · exact q
theorem mx_NP : ∀ j M, mm_P j = some M → ∃ y, mm_nm j = some y := by
  intro j M hM
  have hj : j < 413 := by
    have := (List.getElem?_eq_some_iff.mp hM).1
    rw [mx_len.2] at this
    exact this
  exact ⟨_, List.getElem?_eq_getElem (by rw [mx_len.1]; exact hj)⟩
theorem mx_Cok : mm_Cok := by
  intro ci q hq
  have hl := (List.getElem?_eq_some_iff.mp hq).1
  have h2 := List.all_eq_true.mp mx_C2 ci (List.mem_range.mpr hl)
  rw [hq] at h2
  simp only [Bool.and_eq_true, decide_eq_true_eq] at h2
  obtain ⟨g1, g2, g3⟩ := h2
  obtain ⟨ps, hps⟩ : ∃ ps, mm_fpos[ci]? = some ps := by
    have hfl : mm_fpos.length = mm_cls.length := by decide
    exact ⟨_, List.getElem?_eq_getElem (by rw [hfl]; exact hl)⟩
  have hz : (List.zip mm_cls mm_fpos)[ci]? = some (q, ps) := by rw [List.getElem?_zip_eq_some]; exact ⟨hq, hps⟩
  have h1 := List.all_eq_true.mp mx_C1 _ (List.mem_of_getElem? hz)
  rw [Bool.and_eq_true, decide_eq_true_eq] at h1
  refine ⟨fun w hw => List.mem_filter.mpr ⟨?_, List.all_eq_true.mp h1.2 w hw⟩, fun a ha b hb hne he => ?_, g2, fun k ty hk => ?_⟩
  · rw [h1.1] at hw
    obtain ⟨i, -, hi⟩ := List.mem_filterMap.mp hw
    exact List.mem_of_getElem? hi
  · have e1 : ∀ x (hx : x < q.2.length), (mm_T q.2 x).2.1 = (q.2.map (fun f => f.2.1))[x]'(by rw [List.length_map]; exact hx) := fun x hx => by
      rw [List.getElem_map, mm_T_get (List.getElem?_eq_getElem hx)]
    rw [e1 a ha, e1 b hb] at he
    have hp := List.pairwise_iff_getElem.mp g1
    rcases Nat.lt_or_gt_of_ne hne with z | z
    · exact hp a b _ _ z he
    · exact hp b a _ _ z he.symm
  · have hkl : k < q.2.length := by rw [← g2]; exact (List.getElem?_eq_some_iff.mp hk).1
    have h5 : ((mm_fty ci).map some)[k]? = some (some ty) := by rw [List.getElem?_map, hk]; rfl
    rw [g3, List.getElem?_map, List.getElem?_eq_getElem hkl] at h5
    rw [mm_T_get (List.getElem?_eq_getElem hkl)]
    exact Option.some.inj h5
set_option maxRecDepth 100000 in
theorem mx_Sys : mm_Sys := by
  refine ⟨by decide +kernel, by decide +kernel, by decide +kernel, by decide +kernel, by decide +kernel, ⟨by decide +kernel, by decide +kernel, by decide +kernel⟩, ⟨840, by decide +kernel⟩, ⟨316, by decide +kernel⟩, by decide +kernel, ⟨by decide +kernel, by decide +kernel⟩, by decide +kernel, by decide +kernel⟩
def mm_thck (q : String × Nat × Nat) : Bool := match mm_cls[q.2.2]? with
  | some c => decide (c.2 = []) && (Bundle.fit c.1 && (Nat.ble 15 q.2.2 && (decide (Jvm.Cond.initialized c.1 ∈ mt_g) && (vx_at0 q.1 q.2.1 c.1 mm_nm3).all (fun w => decide (w ∈ mt_tbl) && ((goodWord w || mm_isN w) && vx_ot w)))))
  | none => false
set_option maxRecDepth 100000 in
theorem mx_Th0 : mm_thr.all mm_thck = true := by decide +kernel
theorem mx_Thr : mm_Thr := by
  intro own ic ci hm
  have h1 := List.all_eq_true.mp mx_Th0 _ hm
  unfold mm_thck at h1
  split at h1
  · rename_i c hc
    simp only [Bool.and_eq_true, decide_eq_true_eq, Nat.ble_eq, List.all_eq_true] at h1
    obtain ⟨g1, g2, g3, g4, g5⟩ := h1
    exact ⟨c, hc, g1, g2, g3, g4, fun w hw => ⟨(g5 w hw).1, (g5 w hw).2.1, (g5 w hw).2.2⟩⟩
  · cases h1
