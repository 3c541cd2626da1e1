section N_g
/-! ===== tokens of the class, words of the reference ===== -/
theorem wl_ltr {f : Nat → Int32} {l b : Nat} : ∀ g w, (∀ i, w ≤ i → i < wlF f l b g w → ltr (byt f l (b + i)) = true) ∧ w ≤ wlF f l b g w
  | 0, w => ⟨fun i h1 h2 => absurd h2 (Nat.not_lt.mpr h1), Nat.le_refl w⟩
  | g + 1, w => by
    unfold wlF
    by_cases c : ltr (byt f l (b + w)) = true
    · rw [if_pos c]
      obtain ⟨h1, h2⟩ := wl_ltr (f := f) (l := l) (b := b) g (w + 1)
      refine ⟨fun i a1 a2 => ?_, by omega⟩
      by_cases e : i = w
      · rw [e]
        exact c
      · exact h1 i (by omega) a2
    · rw [if_neg c]
      exact ⟨fun i h1 h2 => absurd h2 (Nat.not_lt.mpr h1), Nat.le_refl w⟩
theorem wl_end {f : Nat → Int32} {l b : Nat} : ∀ g w, l ≤ b + w + g → ltr (byt f l (b + wlF f l b g w)) = false
  | 0, w, h => by
    show ltr (byt f l (b + w)) = false
    rw [byt_ge (by omega)]
    rfl
  | g + 1, w, h => by
    unfold wlF
    by_cases c : ltr (byt f l (b + w)) = true
    · rw [if_pos c]
      exact wl_end g (w + 1) (by omega)
    · rw [if_neg c]
      exact Bool.eq_false_iff.mpr c
/-- how many letters stand at p -/
theorem wl_is {f : Nat → Int32} {l p n : Nat} : wl f l p = n ↔ (∀ i, i < n → ltr (byt f l (p + i)) = true) ∧ ltr (byt f l (p + n)) = false := by
  have h1 := (wl_ltr (f := f) (l := l) (b := p) l 0).1
  have h2 := wl_end (f := f) (l := l) (b := p) l 0 (by omega)
  refine ⟨fun e => ?_, fun ⟨a1, a2⟩ => ?_⟩
  · subst e
    exact ⟨fun i hi => h1 i (Nat.zero_le i) hi, h2⟩
  · refine Nat.le_antisymm (Nat.le_of_not_lt fun q => ?_) (Nat.le_of_not_lt fun q => ?_)
    · rw [h1 n (Nat.zero_le n) q] at a2
      cases a2
    · rw [a1 _ q] at h2
      cases h2
theorem allF_t {g : Nat → Bool} : ∀ m k, allF g m k = true ↔ ∀ i, k ≤ i → i < k + m → g i = true
  | 0, k => ⟨fun _ i h1 h2 => absurd h2 (by omega), fun _ => rfl⟩
  | m + 1, k => by
    unfold allF
    rw [Bool.and_eq_true, allF_t m (k + 1)]
    refine ⟨fun ⟨h1, h2⟩ i a1 a2 => ?_, fun h => ⟨h k (Nat.le_refl k) (by omega), fun i a1 a2 => h i (by omega) (by omega)⟩⟩
    by_cases e : i = k
    · rw [e]
      exact h1
    · exact h2 i (by omega) (by omega)
/-- a word of letters -/
def LW (n N : Nat) : Bool := allF (fun i => ltr (chr N i)) n 0
theorem sp_wl {f : Nat → Int32} {l p n N : Nat} (h : LW n N = true) : spB f l p n N = (decide (wl f l p = n) && allF (fun i => decide (byt f l (p + i) = chr N i)) n 0) := by
  have hl := (allF_t n 0).mp h
  unfold spB
  cases ha : allF (fun i => decide (byt f l (p + i) = chr N i)) n 0 with
  | false => rw [Bool.false_and, Bool.and_false]
  | true =>
    have hb := (allF_t n 0).mp ha
    rw [Bool.true_and, Bool.and_true]
    have hw : ∀ i, i < n → ltr (byt f l (p + i)) = true := fun i hi => by
      rw [of_decide_eq_true (hb i (Nat.zero_le i) (by omega))]
      exact hl i (Nat.zero_le i) (by omega)
    cases hc : ltr (byt f l (p + n)) with
    | false => rw [decide_eq_true (wl_is.mpr ⟨hw, hc⟩)]; rfl
    | true =>
      rw [decide_eq_false fun e => by
        have := (wl_is.mp e).2
        rw [hc] at this
        cases this]
      rfl
theorem se_sp {f : Nat → Int32} {l a n N : Nat} (h : LW n N = true) : seW f l a n N = spB f l (sk f l a) n N := by
  rw [sp_wl h]
  rfl
theorem lw_1 : LW 3 2139822313027049357422 = true := by decide
theorem lw_2 : LW 5 39132472205336074639533124620939281039467 = true := by decide
theorem lw_3 : LW 5 34368519066779144738430796468111364063341 = true := by decide
theorem lw_4 : LW 3 1992248360424488042593 = true := by decide
theorem lw_5 : LW 6 160765180144170663739265370759291221489286224281699 = true := by decide
theorem lw_6 : LW 3 1844674407843401564257 = true := by decide
theorem lw_7 : LW 2 489626271855 = true := by decide
theorem lw_8 : LW 4 9190466853443997336447601344628 = true := by decide
theorem sp_0 {f : Nat → Int32} {l p n N : Nat} (h : LW n N = true) (hn : 1 ≤ n) (h2 : spB f l p n N = true) : 1 ≤ wl f l p ∧ wl f l p = n := by
  rw [sp_wl h, Bool.and_eq_true, decide_eq_true_eq] at h2
  omega
/-- the kind of a name, and of no own word -/
theorem kw_256 {f : Nat → Int32} {l p : Nat} : kwK f l p = 256 ↔ spB f l p 3 2139822313027049357422 = false ∧ spB f l p 5 39132472205336074639533124620939281039467 = false ∧ spB f l p 5 34368519066779144738430796468111364063341 = false ∧ spB f l p 3 1992248360424488042593 = false ∧ spB f l p 6 160765180144170663739265370759291221489286224281699 = false ∧ spB f l p 3 1844674407843401564257 = false ∧ spB f l p 2 489626271855 = false ∧ spB f l p 4 9190466853443997336447601344628 = false := by
  unfold kwK
  refine ⟨fun h => ?_, fun ⟨h1, h2, h3, h4, h5, h6, h7, h8⟩ => ?_⟩
  · by_cases c1 : spB f l p 3 2139822313027049357422 = true
    · rw [if_pos c1] at h
      exact absurd h (by decide)
    by_cases c2 : spB f l p 5 39132472205336074639533124620939281039467 = true
    · rw [if_neg c1, if_pos c2] at h
      exact absurd h (by decide)
    by_cases c3 : spB f l p 5 34368519066779144738430796468111364063341 = true
    · rw [if_neg c1, if_neg c2, if_pos c3] at h
      exact absurd h (by decide)
    by_cases c4 : spB f l p 3 1992248360424488042593 = true
    · rw [if_neg c1, if_neg c2, if_neg c3, if_pos c4] at h
      exact absurd h (by decide)
    by_cases c5 : spB f l p 6 160765180144170663739265370759291221489286224281699 = true
    · rw [if_neg c1, if_neg c2, if_neg c3, if_neg c4, if_pos c5] at h
      exact absurd h (by decide)
    by_cases c6 : spB f l p 3 1844674407843401564257 = true
    · rw [if_neg c1, if_neg c2, if_neg c3, if_neg c4, if_neg c5, if_pos c6] at h
      exact absurd h (by decide)
    by_cases c7 : spB f l p 2 489626271855 = true
    · rw [if_neg c1, if_neg c2, if_neg c3, if_neg c4, if_neg c5, if_neg c6, if_pos c7] at h
      exact absurd h (by decide)
    by_cases c8 : spB f l p 4 9190466853443997336447601344628 = true
    · rw [if_neg c1, if_neg c2, if_neg c3, if_neg c4, if_neg c5, if_neg c6, if_neg c7, if_pos c8] at h
      exact absurd h (by decide)
    exact ⟨Bool.eq_false_iff.mpr c1, Bool.eq_false_iff.mpr c2, Bool.eq_false_iff.mpr c3, Bool.eq_false_iff.mpr c4, Bool.eq_false_iff.mpr c5, Bool.eq_false_iff.mpr c6, Bool.eq_false_iff.mpr c7, Bool.eq_false_iff.mpr c8⟩
  · rw [if_neg (by rw [h1]; decide), if_neg (by rw [h2]; decide), if_neg (by rw [h3]; decide), if_neg (by rw [h4]; decide), if_neg (by rw [h5]; decide), if_neg (by rw [h6]; decide), if_neg (by rw [h7]; decide), if_neg (by rw [h8]; decide)]
/-- the bytes are bytes -/
def BYT (f : Nat → Int32) (l : Nat) : Prop := ∀ k, k < l → ∃ b : Nat, b ≤ 255 ∧ f k = Int32.ofNat b
theorem byt_256 {f : Nat → Int32} {l p : Nat} (hB : BYT f l) {c : Nat} (hc : 256 ≤ c) (h6 : c ≤ 1000) (hp : p < l) : ¬ byt f l p = Int32.ofNat c := by
  obtain ⟨b, hb, e⟩ := hB p hp
  unfold byt
  rw [if_pos hp, e]
  intro q
  have := i_inj (by omega) (by omega) q
  omega
theorem ow_sp {f : Nat → Int32} {l a : Nat} : owW f l a = (spB f l (sk f l a) 3 2139822313027049357422 || (spB f l (sk f l a) 3 1844674407843401564257 || (spB f l (sk f l a) 2 489626271855 || (spB f l (sk f l a) 5 39132472205336074639533124620939281039467 || (spB f l (sk f l a) 5 34368519066779144738430796468111364063341 || (spB f l (sk f l a) 3 1992248360424488042593 || (spB f l (sk f l a) 6 160765180144170663739265370759291221489286224281699 || spB f l (sk f l a) 4 9190466853443997336447601344628))))))) := by
  unfold owW
  rw [se_sp lw_1, se_sp lw_6, se_sp lw_7, se_sp lw_2, se_sp lw_3, se_sp lw_4, se_sp lw_5, se_sp lw_8]
/-- a name for the class is a name for the reference -/
theorem nm_ok {f : Nat → Int32} {l a : Nat} (hB : BYT f l) : kdE f l (sk f l a) = 256 ↔ nmOK f l a = true := by
  unfold nmOK
  rw [Bool.and_eq_true, decide_eq_true_eq, Bool.not_eq_true', ow_sp]
  show _ ↔ (1 ≤ wl f l (sk f l a) ∧ wl f l (sk f l a) ≤ 6) ∧ _
  generalize sk f l a = p
  simp only [Bool.or_eq_false_iff]
  unfold kdE
  by_cases hp : p < l
  · rw [if_pos hp]
    unfold kdF
    by_cases h0 : wl f l p = 0
    · rw [if_pos h0]
      exact ⟨fun q => absurd q (byt_256 hB (by decide) (by decide) hp), fun q => absurd q.1.1 (by omega)⟩
    · rw [if_neg h0]
      by_cases h6 : 6 < wl f l p
      · rw [if_pos h6]
        exact ⟨fun q => absurd q (by decide), fun q => absurd q.1.2 (by omega)⟩
      · rw [if_neg h6, kw_256]
        exact ⟨fun ⟨h1, h2, h3, h4, h5, h6', h7, h8⟩ => ⟨⟨by omega, by omega⟩, h1, h6', h7, h2, h3, h4, h5, h8⟩, fun ⟨_, h1, h6', h7, h2, h3, h4, h5, h8⟩ => ⟨h1, h2, h3, h4, h5, h6', h7, h8⟩⟩
  · rw [if_neg hp]
    refine ⟨fun q => absurd q (by decide), fun q => ?_⟩
    have hw : wl f l p ≤ 0 := by
      rcases wlF_le f l p l 0 with q2 | q2
      · exact q2
      · have q2 : p + wl f l p ≤ l := q2
        omega
    omega
end N_g
