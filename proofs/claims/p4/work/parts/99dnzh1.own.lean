section N_zh
/-! ===== the own words on both sides ===== -/
theorem sp_ex {f : Nat → Int32} {l p n N n' N' : Nat} (h1 : LW n N = true) (h2 : LW n' N' = true) (hx : (decide (n = n') && allF (fun i => decide (chr N i = chr N' i)) n 0) = false) (s1 : spB f l p n N = true) : spB f l p n' N' = false := by
  refine Bool.eq_false_iff.mpr fun s2 => ?_
  rw [sp_wl h1, Bool.and_eq_true, decide_eq_true_eq] at s1
  rw [sp_wl h2, Bool.and_eq_true, decide_eq_true_eq] at s2
  obtain ⟨a1, a2⟩ := s1
  obtain ⟨b1, b2⟩ := s2
  have e : n = n' := a1.symm.trans b1
  subst e
  rw [decide_eq_true rfl, Bool.true_and] at hx
  refine absurd ?_ (Bool.eq_false_iff.mp hx)
  rw [allF_t] at a2 b2 ⊢
  intro i i1 i2
  have c1 := of_decide_eq_true (a2 i i1 i2)
  have c2 := of_decide_eq_true (b2 i i1 i2)
  exact decide_eq_true (c1.symm.trans c2)
theorem kd_kw {f : Nat → Int32} {l p c : Nat} (hB : BYT f l) (h1 : 257 ≤ c) (h2 : c ≤ 265) : kdE f l p = Int32.ofNat c ↔ 1 ≤ wl f l p ∧ wl f l p ≤ 6 ∧ kwK f l p = Int32.ofNat c := by
  have ne : ∀ k : Nat, k ≤ 1000 → k ≠ c → ¬ Int32.ofNat k = Int32.ofNat c := fun k k1 k2 e => k2 (i_inj (by omega) (by omega) e)
  unfold kdE
  by_cases hp : p < l
  · rw [if_pos hp]
    unfold kdF
    by_cases w : wl f l p = 0
    · rw [if_pos w]
      exact ⟨fun z => absurd z (byt_256 hB (by omega) (by omega) hp), fun z => by omega⟩
    · rw [if_neg w]
      by_cases w6 : 6 < wl f l p
      · rw [if_pos w6]
        exact ⟨fun z => absurd z (ne 266 (by decide) (by omega)), fun z => by omega⟩
      · rw [if_neg w6]
        exact ⟨fun z => ⟨by omega, by omega, z⟩, fun z => z.2.2⟩
  · rw [if_neg hp]
    refine ⟨fun z => absurd z (ne 267 (by decide) (by omega)), fun z => ?_⟩
    have : wl f l p = 0 := wl_0.mpr (by rw [show byt f l p = -1 from if_neg hp]; decide)
    omega
theorem kw_257 {f : Nat → Int32} {l p : Nat} : kwK f l p = 257 ↔ spB f l p 3 2139822313027049357422 = true := by
  refine ⟨fun h => ?_, fun h => ?_⟩
  · unfold kwK at h
    by_cases c0 : spB f l p 3 2139822313027049357422 = true
    · exact c0
    by_cases c1 : spB f l p 5 39132472205336074639533124620939281039467 = true
    · rw [if_neg c0, if_pos c1] at h
      exact absurd h (by decide)
    by_cases c2 : spB f l p 5 34368519066779144738430796468111364063341 = true
    · rw [if_neg c0, if_neg c1, if_pos c2] at h
      exact absurd h (by decide)
    by_cases c3 : spB f l p 3 1992248360424488042593 = true
    · rw [if_neg c0, if_neg c1, if_neg c2, if_pos c3] at h
      exact absurd h (by decide)
    by_cases c4 : spB f l p 6 160765180144170663739265370759291221489286224281699 = true
    · rw [if_neg c0, if_neg c1, if_neg c2, if_neg c3, if_pos c4] at h
      exact absurd h (by decide)
    by_cases c5 : spB f l p 3 1844674407843401564257 = true
    · rw [if_neg c0, if_neg c1, if_neg c2, if_neg c3, if_neg c4, if_pos c5] at h
      exact absurd h (by decide)
    by_cases c6 : spB f l p 2 489626271855 = true
    · rw [if_neg c0, if_neg c1, if_neg c2, if_neg c3, if_neg c4, if_neg c5, if_pos c6] at h
      exact absurd h (by decide)
    by_cases c7 : spB f l p 4 9190466853443997336447601344628 = true
    · rw [if_neg c0, if_neg c1, if_neg c2, if_neg c3, if_neg c4, if_neg c5, if_neg c6, if_pos c7] at h
      exact absurd h (by decide)
    rw [if_neg c0, if_neg c1, if_neg c2, if_neg c3, if_neg c4, if_neg c5, if_neg c6, if_neg c7] at h
    exact absurd h (by decide)
  · unfold kwK
    rw [if_pos h]
theorem kd_257 {f : Nat → Int32} {l p : Nat} (hB : BYT f l) : kdE f l p = 257 ↔ spB f l p 3 2139822313027049357422 = true := by
  refine (kd_kw (c := 257) hB (by decide) (by decide)).trans ⟨fun h => kw_257.mp h.2.2, fun h => ?_⟩
  have h1 := sp_0 lw_1 (by decide) h
  exact ⟨h1.1, by omega, kw_257.mpr h⟩
theorem kw_258 {f : Nat → Int32} {l p : Nat} : kwK f l p = 258 ↔ spB f l p 5 39132472205336074639533124620939281039467 = true := by
  refine ⟨fun h => ?_, fun h => ?_⟩
  · unfold kwK at h
    by_cases c0 : spB f l p 3 2139822313027049357422 = true
    · rw [if_pos c0] at h
      exact absurd h (by decide)
    by_cases c1 : spB f l p 5 39132472205336074639533124620939281039467 = true
    · exact c1
    by_cases c2 : spB f l p 5 34368519066779144738430796468111364063341 = true
    · rw [if_neg c0, if_neg c1, if_pos c2] at h
      exact absurd h (by decide)
    by_cases c3 : spB f l p 3 1992248360424488042593 = true
    · rw [if_neg c0, if_neg c1, if_neg c2, if_pos c3] at h
      exact absurd h (by decide)
    by_cases c4 : spB f l p 6 160765180144170663739265370759291221489286224281699 = true
    · rw [if_neg c0, if_neg c1, if_neg c2, if_neg c3, if_pos c4] at h
      exact absurd h (by decide)
    by_cases c5 : spB f l p 3 1844674407843401564257 = true
    · rw [if_neg c0, if_neg c1, if_neg c2, if_neg c3, if_neg c4, if_pos c5] at h
      exact absurd h (by decide)
    by_cases c6 : spB f l p 2 489626271855 = true
    · rw [if_neg c0, if_neg c1, if_neg c2, if_neg c3, if_neg c4, if_neg c5, if_pos c6] at h
      exact absurd h (by decide)
    by_cases c7 : spB f l p 4 9190466853443997336447601344628 = true
    · rw [if_neg c0, if_neg c1, if_neg c2, if_neg c3, if_neg c4, if_neg c5, if_neg c6, if_pos c7] at h
      exact absurd h (by decide)
    rw [if_neg c0, if_neg c1, if_neg c2, if_neg c3, if_neg c4, if_neg c5, if_neg c6, if_neg c7] at h
    exact absurd h (by decide)
  · unfold kwK
    have e0 : ¬ spB f l p 3 2139822313027049357422 = true := Bool.eq_false_iff.mp (sp_ex lw_2 lw_1 (by decide) h)
    rw [if_neg e0, if_pos h]
theorem kd_258 {f : Nat → Int32} {l p : Nat} (hB : BYT f l) : kdE f l p = 258 ↔ spB f l p 5 39132472205336074639533124620939281039467 = true := by
  refine (kd_kw (c := 258) hB (by decide) (by decide)).trans ⟨fun h => kw_258.mp h.2.2, fun h => ?_⟩
  have h1 := sp_0 lw_2 (by decide) h
  exact ⟨h1.1, by omega, kw_258.mpr h⟩
theorem kw_259 {f : Nat → Int32} {l p : Nat} : kwK f l p = 259 ↔ spB f l p 5 34368519066779144738430796468111364063341 = true := by
  refine ⟨fun h => ?_, fun h => ?_⟩
  · unfold kwK at h
    by_cases c0 : spB f l p 3 2139822313027049357422 = true
    · rw [if_pos c0] at h
      exact absurd h (by decide)
    by_cases c1 : spB f l p 5 39132472205336074639533124620939281039467 = true
    · rw [if_neg c0, if_pos c1] at h
      exact absurd h (by decide)
    by_cases c2 : spB f l p 5 34368519066779144738430796468111364063341 = true
    · exact c2
    by_cases c3 : spB f l p 3 1992248360424488042593 = true
    · rw [if_neg c0, if_neg c1, if_neg c2, if_pos c3] at h
      exact absurd h (by decide)
    by_cases c4 : spB f l p 6 160765180144170663739265370759291221489286224281699 = true
    · rw [if_neg c0, if_neg c1, if_neg c2, if_neg c3, if_pos c4] at h
      exact absurd h (by decide)
    by_cases c5 : spB f l p 3 1844674407843401564257 = true
    · rw [if_neg c0, if_neg c1, if_neg c2, if_neg c3, if_neg c4, if_pos c5] at h
      exact absurd h (by decide)
    by_cases c6 : spB f l p 2 489626271855 = true
    · rw [if_neg c0, if_neg c1, if_neg c2, if_neg c3, if_neg c4, if_neg c5, if_pos c6] at h
      exact absurd h (by decide)
    by_cases c7 : spB f l p 4 9190466853443997336447601344628 = true
    · rw [if_neg c0, if_neg c1, if_neg c2, if_neg c3, if_neg c4, if_neg c5, if_neg c6, if_pos c7] at h
      exact absurd h (by decide)
    rw [if_neg c0, if_neg c1, if_neg c2, if_neg c3, if_neg c4, if_neg c5, if_neg c6, if_neg c7] at h
    exact absurd h (by decide)
  · unfold kwK
    have e0 : ¬ spB f l p 3 2139822313027049357422 = true := Bool.eq_false_iff.mp (sp_ex lw_3 lw_1 (by decide) h)
    have e1 : ¬ spB f l p 5 39132472205336074639533124620939281039467 = true := Bool.eq_false_iff.mp (sp_ex lw_3 lw_2 (by decide) h)
    rw [if_neg e0, if_neg e1, if_pos h]
theorem kd_259 {f : Nat → Int32} {l p : Nat} (hB : BYT f l) : kdE f l p = 259 ↔ spB f l p 5 34368519066779144738430796468111364063341 = true := by
  refine (kd_kw (c := 259) hB (by decide) (by decide)).trans ⟨fun h => kw_259.mp h.2.2, fun h => ?_⟩
  have h1 := sp_0 lw_3 (by decide) h
  exact ⟨h1.1, by omega, kw_259.mpr h⟩
theorem kw_260 {f : Nat → Int32} {l p : Nat} : kwK f l p = 260 ↔ spB f l p 3 1992248360424488042593 = true := by
  refine ⟨fun h => ?_, fun h => ?_⟩
  · unfold kwK at h
    by_cases c0 : spB f l p 3 2139822313027049357422 = true
    · rw [if_pos c0] at h
      exact absurd h (by decide)
    by_cases c1 : spB f l p 5 39132472205336074639533124620939281039467 = true
    · rw [if_neg c0, if_pos c1] at h
      exact absurd h (by decide)
    by_cases c2 : spB f l p 5 34368519066779144738430796468111364063341 = true
    · rw [if_neg c0, if_neg c1, if_pos c2] at h
      exact absurd h (by decide)
    by_cases c3 : spB f l p 3 1992248360424488042593 = true
    · exact c3
    by_cases c4 : spB f l p 6 160765180144170663739265370759291221489286224281699 = true
    · rw [if_neg c0, if_neg c1, if_neg c2, if_neg c3, if_pos c4] at h
      exact absurd h (by decide)
    by_cases c5 : spB f l p 3 1844674407843401564257 = true
    · rw [if_neg c0, if_neg c1, if_neg c2, if_neg c3, if_neg c4, if_pos c5] at h
      exact absurd h (by decide)
    by_cases c6 : spB f l p 2 489626271855 = true
    · rw [if_neg c0, if_neg c1, if_neg c2, if_neg c3, if_neg c4, if_neg c5, if_pos c6] at h
      exact absurd h (by decide)
    by_cases c7 : spB f l p 4 9190466853443997336447601344628 = true
    · rw [if_neg c0, if_neg c1, if_neg c2, if_neg c3, if_neg c4, if_neg c5, if_neg c6, if_pos c7] at h
      exact absurd h (by decide)
    rw [if_neg c0, if_neg c1, if_neg c2, if_neg c3, if_neg c4, if_neg c5, if_neg c6, if_neg c7] at h
    exact absurd h (by decide)
  · unfold kwK
    have e0 : ¬ spB f l p 3 2139822313027049357422 = true := Bool.eq_false_iff.mp (sp_ex lw_4 lw_1 (by decide) h)
    have e1 : ¬ spB f l p 5 39132472205336074639533124620939281039467 = true := Bool.eq_false_iff.mp (sp_ex lw_4 lw_2 (by decide) h)
    have e2 : ¬ spB f l p 5 34368519066779144738430796468111364063341 = true := Bool.eq_false_iff.mp (sp_ex lw_4 lw_3 (by decide) h)
    rw [if_neg e0, if_neg e1, if_neg e2, if_pos h]
theorem kd_260 {f : Nat → Int32} {l p : Nat} (hB : BYT f l) : kdE f l p = 260 ↔ spB f l p 3 1992248360424488042593 = true := by
  refine (kd_kw (c := 260) hB (by decide) (by decide)).trans ⟨fun h => kw_260.mp h.2.2, fun h => ?_⟩
  have h1 := sp_0 lw_4 (by decide) h
  exact ⟨h1.1, by omega, kw_260.mpr h⟩
theorem kw_261 {f : Nat → Int32} {l p : Nat} : kwK f l p = 261 ↔ spB f l p 6 160765180144170663739265370759291221489286224281699 = true := by
  refine ⟨fun h => ?_, fun h => ?_⟩
  · unfold kwK at h
    by_cases c0 : spB f l p 3 2139822313027049357422 = true
    · rw [if_pos c0] at h
      exact absurd h (by decide)
    by_cases c1 : spB f l p 5 39132472205336074639533124620939281039467 = true
    · rw [if_neg c0, if_pos c1] at h
      exact absurd h (by decide)
    by_cases c2 : spB f l p 5 34368519066779144738430796468111364063341 = true
    · rw [if_neg c0, if_neg c1, if_pos c2] at h
      exact absurd h (by decide)
    by_cases c3 : spB f l p 3 1992248360424488042593 = true
    · rw [if_neg c0, if_neg c1, if_neg c2, if_pos c3] at h
      exact absurd h (by decide)
    by_cases c4 : spB f l p 6 160765180144170663739265370759291221489286224281699 = true
    · exact c4
    by_cases c5 : spB f l p 3 1844674407843401564257 = true
    · rw [if_neg c0, if_neg c1, if_neg c2, if_neg c3, if_neg c4, if_pos c5] at h
      exact absurd h (by decide)
    by_cases c6 : spB f l p 2 489626271855 = true
    · rw [if_neg c0, if_neg c1, if_neg c2, if_neg c3, if_neg c4, if_neg c5, if_pos c6] at h
      exact absurd h (by decide)
    by_cases c7 : spB f l p 4 9190466853443997336447601344628 = true
    · rw [if_neg c0, if_neg c1, if_neg c2, if_neg c3, if_neg c4, if_neg c5, if_neg c6, if_pos c7] at h
      exact absurd h (by decide)
    rw [if_neg c0, if_neg c1, if_neg c2, if_neg c3, if_neg c4, if_neg c5, if_neg c6, if_neg c7] at h
    exact absurd h (by decide)
  · unfold kwK
    have e0 : ¬ spB f l p 3 2139822313027049357422 = true := Bool.eq_false_iff.mp (sp_ex lw_5 lw_1 (by decide) h)
    have e1 : ¬ spB f l p 5 39132472205336074639533124620939281039467 = true := Bool.eq_false_iff.mp (sp_ex lw_5 lw_2 (by decide) h)
    have e2 : ¬ spB f l p 5 34368519066779144738430796468111364063341 = true := Bool.eq_false_iff.mp (sp_ex lw_5 lw_3 (by decide) h)
    have e3 : ¬ spB f l p 3 1992248360424488042593 = true := Bool.eq_false_iff.mp (sp_ex lw_5 lw_4 (by decide) h)
    rw [if_neg e0, if_neg e1, if_neg e2, if_neg e3, if_pos h]
theorem kd_261 {f : Nat → Int32} {l p : Nat} (hB : BYT f l) : kdE f l p = 261 ↔ spB f l p 6 160765180144170663739265370759291221489286224281699 = true := by
  refine (kd_kw (c := 261) hB (by decide) (by decide)).trans ⟨fun h => kw_261.mp h.2.2, fun h => ?_⟩
  have h1 := sp_0 lw_5 (by decide) h
  exact ⟨h1.1, by omega, kw_261.mpr h⟩
theorem kw_262 {f : Nat → Int32} {l p : Nat} : kwK f l p = 262 ↔ spB f l p 3 1844674407843401564257 = true := by
  refine ⟨fun h => ?_, fun h => ?_⟩
  · unfold kwK at h
    by_cases c0 : spB f l p 3 2139822313027049357422 = true
    · rw [if_pos c0] at h
      exact absurd h (by decide)
    by_cases c1 : spB f l p 5 39132472205336074639533124620939281039467 = true
    · rw [if_neg c0, if_pos c1] at h
      exact absurd h (by decide)
    by_cases c2 : spB f l p 5 34368519066779144738430796468111364063341 = true
    · rw [if_neg c0, if_neg c1, if_pos c2] at h
      exact absurd h (by decide)
    by_cases c3 : spB f l p 3 1992248360424488042593 = true
    · rw [if_neg c0, if_neg c1, if_neg c2, if_pos c3] at h
      exact absurd h (by decide)
    by_cases c4 : spB f l p 6 160765180144170663739265370759291221489286224281699 = true
    · rw [if_neg c0, if_neg c1, if_neg c2, if_neg c3, if_pos c4] at h
      exact absurd h (by decide)
    by_cases c5 : spB f l p 3 1844674407843401564257 = true
    · exact c5
    by_cases c6 : spB f l p 2 489626271855 = true
    · rw [if_neg c0, if_neg c1, if_neg c2, if_neg c3, if_neg c4, if_neg c5, if_pos c6] at h
      exact absurd h (by decide)
    by_cases c7 : spB f l p 4 9190466853443997336447601344628 = true
    · rw [if_neg c0, if_neg c1, if_neg c2, if_neg c3, if_neg c4, if_neg c5, if_neg c6, if_pos c7] at h
      exact absurd h (by decide)
    rw [if_neg c0, if_neg c1, if_neg c2, if_neg c3, if_neg c4, if_neg c5, if_neg c6, if_neg c7] at h
    exact absurd h (by decide)
  · unfold kwK
    have e0 : ¬ spB f l p 3 2139822313027049357422 = true := Bool.eq_false_iff.mp (sp_ex lw_6 lw_1 (by decide) h)
    have e1 : ¬ spB f l p 5 39132472205336074639533124620939281039467 = true := Bool.eq_false_iff.mp (sp_ex lw_6 lw_2 (by decide) h)
    have e2 : ¬ spB f l p 5 34368519066779144738430796468111364063341 = true := Bool.eq_false_iff.mp (sp_ex lw_6 lw_3 (by decide) h)
    have e3 : ¬ spB f l p 3 1992248360424488042593 = true := Bool.eq_false_iff.mp (sp_ex lw_6 lw_4 (by decide) h)
    have e4 : ¬ spB f l p 6 160765180144170663739265370759291221489286224281699 = true := Bool.eq_false_iff.mp (sp_ex lw_6 lw_5 (by decide) h)
    rw [if_neg e0, if_neg e1, if_neg e2, if_neg e3, if_neg e4, if_pos h]
theorem kd_262 {f : Nat → Int32} {l p : Nat} (hB : BYT f l) : kdE f l p = 262 ↔ spB f l p 3 1844674407843401564257 = true := by
  refine (kd_kw (c := 262) hB (by decide) (by decide)).trans ⟨fun h => kw_262.mp h.2.2, fun h => ?_⟩
  have h1 := sp_0 lw_6 (by decide) h
  exact ⟨h1.1, by omega, kw_262.mpr h⟩
theorem kw_263 {f : Nat → Int32} {l p : Nat} : kwK f l p = 263 ↔ spB f l p 2 489626271855 = true := by
  refine ⟨fun h => ?_, fun h => ?_⟩
  · unfold kwK at h
    by_cases c0 : spB f l p 3 2139822313027049357422 = true
    · rw [if_pos c0] at h
      exact absurd h (by decide)
    by_cases c1 : spB f l p 5 39132472205336074639533124620939281039467 = true
    · rw [if_neg c0, if_pos c1] at h
      exact absurd h (by decide)
    by_cases c2 : spB f l p 5 34368519066779144738430796468111364063341 = true
    · rw [if_neg c0, if_neg c1, if_pos c2] at h
      exact absurd h (by decide)
    by_cases c3 : spB f l p 3 1992248360424488042593 = true
    · rw [if_neg c0, if_neg c1, if_neg c2, if_pos c3] at h
      exact absurd h (by decide)
    by_cases c4 : spB f l p 6 160765180144170663739265370759291221489286224281699 = true
    · rw [if_neg c0, if_neg c1, if_neg c2, if_neg c3, if_pos c4] at h
      exact absurd h (by decide)
    by_cases c5 : spB f l p 3 1844674407843401564257 = true
    · rw [if_neg c0, if_neg c1, if_neg c2, if_neg c3, if_neg c4, if_pos c5] at h
      exact absurd h (by decide)
    by_cases c6 : spB f l p 2 489626271855 = true
    · exact c6
    by_cases c7 : spB f l p 4 9190466853443997336447601344628 = true
    · rw [if_neg c0, if_neg c1, if_neg c2, if_neg c3, if_neg c4, if_neg c5, if_neg c6, if_pos c7] at h
      exact absurd h (by decide)
    rw [if_neg c0, if_neg c1, if_neg c2, if_neg c3, if_neg c4, if_neg c5, if_neg c6, if_neg c7] at h
    exact absurd h (by decide)
  · unfold kwK
    have e0 : ¬ spB f l p 3 2139822313027049357422 = true := Bool.eq_false_iff.mp (sp_ex lw_7 lw_1 (by decide) h)
    have e1 : ¬ spB f l p 5 39132472205336074639533124620939281039467 = true := Bool.eq_false_iff.mp (sp_ex lw_7 lw_2 (by decide) h)
    have e2 : ¬ spB f l p 5 34368519066779144738430796468111364063341 = true := Bool.eq_false_iff.mp (sp_ex lw_7 lw_3 (by decide) h)
    have e3 : ¬ spB f l p 3 1992248360424488042593 = true := Bool.eq_false_iff.mp (sp_ex lw_7 lw_4 (by decide) h)
    have e4 : ¬ spB f l p 6 160765180144170663739265370759291221489286224281699 = true := Bool.eq_false_iff.mp (sp_ex lw_7 lw_5 (by decide) h)
    have e5 : ¬ spB f l p 3 1844674407843401564257 = true := Bool.eq_false_iff.mp (sp_ex lw_7 lw_6 (by decide) h)
    rw [if_neg e0, if_neg e1, if_neg e2, if_neg e3, if_neg e4, if_neg e5, if_pos h]
theorem kd_263 {f : Nat → Int32} {l p : Nat} (hB : BYT f l) : kdE f l p = 263 ↔ spB f l p 2 489626271855 = true := by
  refine (kd_kw (c := 263) hB (by decide) (by decide)).trans ⟨fun h => kw_263.mp h.2.2, fun h => ?_⟩
  have h1 := sp_0 lw_7 (by decide) h
  exact ⟨h1.1, by omega, kw_263.mpr h⟩
theorem kw_265 {f : Nat → Int32} {l p : Nat} : kwK f l p = 265 ↔ spB f l p 4 9190466853443997336447601344628 = true := by
  refine ⟨fun h => ?_, fun h => ?_⟩
  · unfold kwK at h
    by_cases c0 : spB f l p 3 2139822313027049357422 = true
    · rw [if_pos c0] at h
      exact absurd h (by decide)
    by_cases c1 : spB f l p 5 39132472205336074639533124620939281039467 = true
    · rw [if_neg c0, if_pos c1] at h
      exact absurd h (by decide)
    by_cases c2 : spB f l p 5 34368519066779144738430796468111364063341 = true
    · rw [if_neg c0, if_neg c1, if_pos c2] at h
      exact absurd h (by decide)
    by_cases c3 : spB f l p 3 1992248360424488042593 = true
    · rw [if_neg c0, if_neg c1, if_neg c2, if_pos c3] at h
      exact absurd h (by decide)
    by_cases c4 : spB f l p 6 160765180144170663739265370759291221489286224281699 = true
    · rw [if_neg c0, if_neg c1, if_neg c2, if_neg c3, if_pos c4] at h
      exact absurd h (by decide)
    by_cases c5 : spB f l p 3 1844674407843401564257 = true
    · rw [if_neg c0, if_neg c1, if_neg c2, if_neg c3, if_neg c4, if_pos c5] at h
      exact absurd h (by decide)
    by_cases c6 : spB f l p 2 489626271855 = true
    · rw [if_neg c0, if_neg c1, if_neg c2, if_neg c3, if_neg c4, if_neg c5, if_pos c6] at h
      exact absurd h (by decide)
    by_cases c7 : spB f l p 4 9190466853443997336447601344628 = true
    · exact c7
    rw [if_neg c0, if_neg c1, if_neg c2, if_neg c3, if_neg c4, if_neg c5, if_neg c6, if_neg c7] at h
    exact absurd h (by decide)
  · unfold kwK
    have e0 : ¬ spB f l p 3 2139822313027049357422 = true := Bool.eq_false_iff.mp (sp_ex lw_8 lw_1 (by decide) h)
    have e1 : ¬ spB f l p 5 39132472205336074639533124620939281039467 = true := Bool.eq_false_iff.mp (sp_ex lw_8 lw_2 (by decide) h)
    have e2 : ¬ spB f l p 5 34368519066779144738430796468111364063341 = true := Bool.eq_false_iff.mp (sp_ex lw_8 lw_3 (by decide) h)
    have e3 : ¬ spB f l p 3 1992248360424488042593 = true := Bool.eq_false_iff.mp (sp_ex lw_8 lw_4 (by decide) h)
    have e4 : ¬ spB f l p 6 160765180144170663739265370759291221489286224281699 = true := Bool.eq_false_iff.mp (sp_ex lw_8 lw_5 (by decide) h)
    have e5 : ¬ spB f l p 3 1844674407843401564257 = true := Bool.eq_false_iff.mp (sp_ex lw_8 lw_6 (by decide) h)
    have e6 : ¬ spB f l p 2 489626271855 = true := Bool.eq_false_iff.mp (sp_ex lw_8 lw_7 (by decide) h)
    rw [if_neg e0, if_neg e1, if_neg e2, if_neg e3, if_neg e4, if_neg e5, if_neg e6, if_pos h]
theorem kd_265 {f : Nat → Int32} {l p : Nat} (hB : BYT f l) : kdE f l p = 265 ↔ spB f l p 4 9190466853443997336447601344628 = true := by
  refine (kd_kw (c := 265) hB (by decide) (by decide)).trans ⟨fun h => kw_265.mp h.2.2, fun h => ?_⟩
  have h1 := sp_0 lw_8 (by decide) h
  exact ⟨h1.1, by omega, kw_265.mpr h⟩
theorem wl_big {f : Nat → Int32} {l p c : Nat} (hB : BYT f l) (h1 : 257 ≤ c) (h2 : c ≤ 265) (h : kdE f l p = Int32.ofNat c) : ¬ wl f l p = 0 := fun z => by
  have := ((kd_kw hB h1 h2).mp h).1
  omega
/-- the reference's kind of a modal word -/
theorem mk_k {f : Nat → Int32} {l a : Nat} (hB : BYT f l) : (mkF f l a = 4 ∧ kdE f l (sk f l a) = 258) ∨ (mkF f l a = 5 ∧ kdE f l (sk f l a) = 259) ∨ (mkF f l a = 6 ∧ kdE f l (sk f l a) = 260) ∨ (mkF f l a = 7 ∧ kdE f l (sk f l a) = 261) ∨ (mkF f l a = -1 ∧ ¬ kdE f l (sk f l a) = 258 ∧ ¬ kdE f l (sk f l a) = 259 ∧ ¬ kdE f l (sk f l a) = 260 ∧ ¬ kdE f l (sk f l a) = 261) := by
  unfold mkF
  rw [se_sp lw_2, se_sp lw_3, se_sp lw_4, se_sp lw_5, kd_258 hB, kd_259 hB, kd_260 hB, kd_261 hB]
  by_cases c1 : spB f l (sk f l a) 5 39132472205336074639533124620939281039467 = true
  · rw [if_pos c1]
    exact Or.inl ⟨rfl, c1⟩
  by_cases c2 : spB f l (sk f l a) 5 34368519066779144738430796468111364063341 = true
  · rw [if_neg c1, if_pos c2]
    exact Or.inr (Or.inl ⟨rfl, c2⟩)
  by_cases c3 : spB f l (sk f l a) 3 1992248360424488042593 = true
  · rw [if_neg c1, if_neg c2, if_pos c3]
    exact Or.inr (Or.inr (Or.inl ⟨rfl, c3⟩))
  by_cases c4 : spB f l (sk f l a) 6 160765180144170663739265370759291221489286224281699 = true
  · rw [if_neg c1, if_neg c2, if_neg c3, if_pos c4]
    exact Or.inr (Or.inr (Or.inr (Or.inl ⟨rfl, c4⟩)))
  · rw [if_neg c1, if_neg c2, if_neg c3, if_neg c4]
    exact Or.inr (Or.inr (Or.inr (Or.inr ⟨rfl, c1, c2, c3, c4⟩)))
end N_zh
