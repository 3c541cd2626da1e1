section M20
/-! ===== the reference: all lines behind the first ===== -/
theorem lwF_go {f : Nat → Int32} {l np nf c b : Nat} {V : hV} {T : hP} (h : er (lwF f l np nf c b V T).2 = 0) : (lwF f l np nf c b V T).1.1 313 5 = Int32.ofNat (c + 1) ∧ c < 6 ∧ er T = 0 := by
  unfold lwF at h ⊢
  obtain ⟨X, hX⟩ : ∃ X, muP (if c < 6 then 1 else 0) 3 T = X := ⟨_, rfl⟩
  rw [hX] at h ⊢
  obtain ⟨q, hq⟩ : ∃ q, lwQ f l np nf V X = q := ⟨_, rfl⟩
  rw [hq] at h ⊢
  by_cases h0 : er X = 0
  · rw [if_pos h0] at h ⊢
    rw [← hX] at h0
    have hT0 : er T = 0 := mu_er (by decide) h0
    have hc : c < 6 := by
      refine Nat.lt_of_not_le fun z => ?_
      rw [if_neg (Nat.not_lt.mpr z), er_mu0 hT0] at h0
      exact absurd h0 (by decide)
    by_cases h1 : er q.2.2.2 = 0
    · rw [if_pos h1] at h ⊢
      exact ⟨up_eq _ _ _ _, hc, hT0⟩
    · rw [if_neg h1] at h
      exact absurd h h1
  · rw [if_neg h0] at h
    exact absurd h h0
theorem pnF_go {f : Nat → Int32} {l nf m : Nat} {V : hV} {T : hP} (h : er (pnF f l nf m V T).2 = 0) : (pnF f l nf m V T).1.1 313 1 = Int32.ofNat (m + 1) ∧ m < 5 ∧ er T = 0 := by
  unfold pnF at h ⊢
  obtain ⟨X, hX⟩ : ∃ X, muP (if m < 5 then 1 else 0) 3 T = X := ⟨_, rfl⟩
  rw [hX] at h ⊢
  obtain ⟨q, hq⟩ : ∃ q, pnY (V.1 313) f l m X = q := ⟨_, rfl⟩
  rw [hq] at h ⊢
  by_cases h0 : er X = 0
  · rw [if_pos h0] at h ⊢
    rw [← hX] at h0
    have hT0 : er T = 0 := mu_er (by decide) h0
    have hc : m < 5 := by
      refine Nat.lt_of_not_le fun z => ?_
      rw [if_neg (Nat.not_lt.mpr z), er_mu0 hT0] at h0
      exact absurd h0 (by decide)
    by_cases h1 : er q = 0
    · rw [if_pos h1] at h ⊢
      exact ⟨up_eq _ _ _ _, hc, hT0⟩
    · rw [if_neg h1] at h
      exact absurd h h1
  · rw [if_neg h0] at h
    exact absurd h h0
/-- the state's counts: facts, persons, laws -/
def RS (V : hV) (f : Nat → Int32) (l nf np c : Nat) : Prop := TX V f l ∧ V.1 313 0 = Int32.ofNat nf ∧ nf ≤ 5 ∧ V.1 313 1 = Int32.ofNat np ∧ np ≤ 5 ∧ V.1 313 5 = Int32.ofNat c ∧ c ≤ 6
/-- what the reading of lines leaves -/
def Fr (V V' : hV) : Prop := (∀ a k, a ≠ 312 → a ≠ 313 → a ≠ 318 → a ≠ 320 → V'.1 a k = V.1 a k) ∧ (∀ k, k < 19 → V'.1 312 k = V.1 312 k)
theorem Fr.rfl' (V : hV) : Fr V V := ⟨fun _ _ _ _ _ _ => rfl, fun _ _ => rfl⟩
theorem Fr.tr {A B C : hV} (h1 : Fr A B) (h2 : Fr B C) : Fr A C := ⟨fun a k z1 z2 z3 z4 => (h2.1 a k z1 z2 z3 z4).trans (h1.1 a k z1 z2 z3 z4), fun k z => (h2.2 k z).trans (h1.2 k z)⟩
theorem Fr.tx {A B : hV} {f : Nat → Int32} {l : Nat} (h : Fr A B) (hT : TX A f l) : TX B f l := ⟨(h.2 10 (by decide)).trans hT.1, hT.2.1, (funext fun k => h.1 319 k (by decide) (by decide) (by decide) (by decide)).trans hT.2.2⟩
theorem Fr.of313 {A B : hV} (h : ∀ a k, a ≠ 313 → B.1 a k = A.1 a k) : Fr A B := ⟨fun a k _ z2 _ _ => h a k z2, fun k _ => h 312 k (by decide)⟩
def lwL (f : Nat → Int32) (l nf np : Nat) : Nat → hV → hP → hV × hP
  | 0, V, T => (V, T)
  | g + 1, V, T => if er T = 0 then (if nlB f l T 3 2195162545188048470124 = true then lwL f l nf np g (lwF f l np nf (mm_un (V.1 313 5)) (nlP f l T).2.1 V (nlP f l T)).1 (lwF f l np nf (mm_un (V.1 313 5)) (nlP f l T).2.1 V (nlP f l T)).2 else (V, nlP f l T)) else (V, T)
theorem to_nl {f : Nat → Int32} {l : Nat} {T : hP} (h : TO l T) : TO l (nlP f l T) := by
  unfold nlP
  split
  · exact to_nx (to_sg (by decide) h)
  · exact to_sg (by decide) h
theorem tw_nl {f : Nat → Int32} {l : Nat} {T : hP} (h : TO l T) : TW l (nlP f l T) := by
  unfold nlP
  split
  · exact tw_nx (to_sg (by decide) h)
  · rename_i z
    exact fun q => absurd q z
theorem l_laws {S : ww_S} {sh : List mm_C} (hM : MS sh) {f : Nat → Int32} {l nf : Nat} {y : Option Value} : ∀ (g c : Nat) (V : hV) (T : hP), RS V f l nf 0 c → TO l T → (if er T = 0 then 8 - c else 1) ≤ g → (∀ {Q}, WP S 190 mm_m234 35 [some (.ref 312), y] [] (hH sh (pp (lwL f l nf 0 g V T).1 (lwL f l nf 0 g V T).2)) Q → WP S 190 mm_m234 0 [some (.ref 312), y] [] (hH sh (pp V T)) Q) ∧ (∃ c', RS (lwL f l nf 0 g V T).1 f l nf 0 c') ∧ TO l (lwL f l nf 0 g V T).2 ∧ Fr V (lwL f l nf 0 g V T).1 := by
  intro g
  induction g with
  | zero =>
    intro c V T hR hO hg
    have := hR.2.2.2.2.2.2
    exfalso
    split at hg <;> omega
  | succ g ih =>
    intro c V T hR hO hg
    obtain ⟨hT, hnf, h5f, hnp, h5, hc, h6⟩ := hR
    by_cases h0 : er T = 0
    · rw [if_pos h0] at hg
      have EN := e_nextLine (S := S) (V := V) (T := T) hM hT hO (k := 24) XS24
      have hOn := to_nl (f := f) hO
      by_cases hb : nlB f l T 3 2195162545188048470124 = true
      · have hL : lwL f l nf 0 (g + 1) V T = lwL f l nf 0 g (lwF f l 0 nf c (nlP f l T).2.1 V (nlP f l T)).1 (lwF f l 0 nf c (nlP f l T).2.1 V (nlP f l T)).2 := by
          rw [lwL.eq_2, if_pos h0, if_pos hb, show mm_un (V.1 313 5) = c by rw [hc]; exact i_un (by omega)]
        rw [hL]
        have EL := e_lawLine (S := S) (V := V) (T := nlP f l T) hM hT (np := 0) (nf := nf) hnp h5 hnf h5f (c := c) (b := (nlP f l T).2.1) hc h6 hOn (tw_nl hO)
        have hgo := fun h => lwF_go (f := f) (l := l) (np := 0) (nf := nf) (c := c) (b := (nlP f l T).2.1) (V := V) (T := nlP f l T) h
        obtain ⟨A, hA⟩ : ∃ A, lwF f l 0 nf c (nlP f l T).2.1 V (nlP f l T) = A := ⟨_, rfl⟩
        rw [hA] at EL hgo ⊢
        obtain ⟨EL, l1, ⟨c1, l2, l3⟩, l4, l5, l6⟩ := EL
        have hF : Fr V A.1 := ⟨l4, l5⟩
        have hR1 : RS A.1 f l nf 0 c1 := ⟨hF.tx hT, (l6 0 (by decide) (by decide)).trans hnf, h5f, (l6 1 (by decide) (by decide)).trans hnp, h5, l2, l3⟩
        obtain ⟨i1, i2, i3, i4⟩ := ih c1 A.1 A.2 hR1 l1 (by
          split
          · rename_i z
            obtain ⟨z1, z2, _⟩ := hgo z
            have := i_inj (by omega) (by omega) (l2.symm.trans z1)
            omega
          · omega)
        refine ⟨fun {Q} E35 => ?_, i2, i3, hF.tr i4⟩
        have E0 := i1 E35
        refine wp_aload_n k234_0 rfl rfl ?_
        refine wp_getI k234_1 (by decide) hM.o rfl (T.2.2.2.1) rfl ?_
        refine wp_if_ne_F k234_4 h0 ?_
        refine wp_aload_n k234_7 rfl rfl ?_
        refine wp_cv (st2 := []) k234_8 (e_personsP hM hnp) (by decide) rfl rfl rfl rfl (by decide) hM.o (by decide) ?_
        refine wp_if_ne_F k234_11 rfl ?_
        refine wp_aload_n k234_14 rfl rfl ?_
        refine wp_ldc_wR k234_15 ?_
        refine wp_cv (st2 := []) k234_18 EN (by decide) rfl rfl rfl rfl (by decide) hM.o (by decide) ?_
        refine wp_if_eq_F k234_21 (bI_n0.mpr hb) ?_
        refine wp_aload_n k234_24 rfl rfl ?_
        refine wp_aload_n k234_25 rfl rfl ?_
        refine wp_getI k234_26 (by decide) hM.o rfl (Int32.ofNat ((nlP f l T).2.1)) rfl ?_
        refine wp_cvn (st2 := []) k234_29 EL (by decide) rfl rfl rfl rfl (by decide) hM.o (by decide) ?_
        refine wp_goto k234_32 ?_
        exact E0
      · have hL : lwL f l nf 0 (g + 1) V T = (V, nlP f l T) := by
          rw [lwL.eq_2, if_pos h0, if_neg hb]
        rw [hL]
        refine ⟨fun {Q} E35 => ?_, ⟨c, hT, hnf, h5f, hnp, h5, hc, h6⟩, hOn, Fr.rfl' V⟩
        refine wp_aload_n k234_0 rfl rfl ?_
        refine wp_getI k234_1 (by decide) hM.o rfl (T.2.2.2.1) rfl ?_
        refine wp_if_ne_F k234_4 h0 ?_
        refine wp_aload_n k234_7 rfl rfl ?_
        refine wp_cv (st2 := []) k234_8 (e_personsP hM hnp) (by decide) rfl rfl rfl rfl (by decide) hM.o (by decide) ?_
        refine wp_if_ne_F k234_11 rfl ?_
        refine wp_aload_n k234_14 rfl rfl ?_
        refine wp_ldc_wR k234_15 ?_
        refine wp_cv (st2 := []) k234_18 EN (by decide) rfl rfl rfl rfl (by decide) hM.o (by decide) ?_
        refine wp_if_eq_T k234_21 (bI_0.mpr (Bool.eq_false_iff.mpr hb)) ?_
        exact E35
    · have hL : lwL f l nf 0 (g + 1) V T = (V, T) := by
        rw [lwL.eq_2, if_neg h0]
      rw [hL]
      refine ⟨fun {Q} E35 => ?_, ⟨c, hT, hnf, h5f, hnp, h5, hc, h6⟩, hO, Fr.rfl' V⟩
      refine wp_aload_n k234_0 rfl rfl ?_
      refine wp_getI k234_1 (by decide) hM.o rfl (T.2.2.2.1) rfl ?_
      refine wp_if_ne_T k234_4 h0 ?_
      exact E35
end M20
