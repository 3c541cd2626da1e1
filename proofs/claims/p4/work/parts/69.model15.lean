section M15
/-! ===== the reference: the facts' line ===== -/
theorem i_inj {a b : Nat} (ha : a ≤ 100000) (hb : b ≤ 100000) (h : Int32.ofNat a = Int32.ofNat b) : a = b := by
  have h1 := congrArg mm_un h
  rw [i_un (by omega), i_un (by omega)] at h1
  exact h1
theorem lay_lo {V : hV} {f : Nat → Int32} {l b w t j : Nat} (h : j < t) : (layV V f l b w t).1 313 j = V.1 313 j := by
  unfold layV
  refine ovr_none V ?_
  unfold layG
  rw [if_neg (by omega), if_neg (by omega)]
theorem lay_ne {V : hV} {f : Nat → Int32} {l b w t a j : Nat} (h : a ≠ 313) : (layV V f l b w t).1 a j = V.1 a j := ovr_ne V _ h j
def flX (n : Nat) (r : Int32 × hP) : hP := muP (if n < 5 then 1 else 0) 3 (muP (if r.1 = -1 then 1 else 0) 2 r.2)
def flV (f : Nat → Int32) (l : Nat) (V : hV) (T : hP) (n : Nat) : hV := up (layV V f l T.2.1 T.2.2.1 (80 + 7 * n)) 313 0 (Int32.ofNat (n + 1))
def wsN (n : Nat) : Int32 := if n = 5 then -1 else (1 : Int32) <<< ((1 : Int32) <<< (Int32.ofNat n &&& 31) &&& 31) - 1
def flF (f : Nat → Int32) (l : Nat) : Nat → Nat → hV → hP → hV × hP
  | 0, _, V, T => (V, T)
  | g + 1, n, V, T => if er (flX n (rnP (V.1 313) f l 80 n T)) = 0 then (if 0 < wn f l (flX n (rnP (V.1 313) f l 80 n T)).1 then flF f l g (n + 1) (flV f l V (flX n (rnP (V.1 313) f l 80 n T)) n) (nxP f l (flX n (rnP (V.1 313) f l 80 n T))) else (up (flV f l V (flX n (rnP (V.1 313) f l 80 n T)) n) 313 2 (wsN (n + 1)), nxP f l (flX n (rnP (V.1 313) f l 80 n T)))) else (V, flX n (rnP (V.1 313) f l 80 n T))
theorem rn_w {G f : Nat → Int32} {l base many : Nat} {T : hP} (h1 : TO l T) (h6 : l ≤ 600) (h : er (rnP G f l base many T).2 = 0) : (rnP G f l base many T).2.2.1 ≤ 3000 ∧ (rnP G f l base many T).2.2.2.1 ≤ 6 := by
  unfold rnP at h ⊢
  by_cases h0 : er T = 0
  · rw [if_pos h0] at h ⊢
    have hs := sk_le f l T.1
    have h2 := h1.2 h0
    by_cases hn : nmOK f l T.1 = true
    · rw [if_pos hn]
      have hw : wn f l T.1 ≤ 6 := by
        unfold nmOK at hn
        rw [Bool.and_eq_true] at hn
        exact (of_decide_eq_true hn.1).2
      exact ⟨show sk f l T.1 ≤ 3000 by omega, hw⟩
    · rw [if_neg hn] at h
      have h : er (muP 0 1 (nxP f l T)) = 0 := h
      rw [er_mu0 (show er (nxP f l T) = 0 from h0)] at h
      exact absurd h (by decide)
  · rw [if_neg h0] at h
    exact absurd h h0
theorem l_factsLine {S : ww_S} {sh : List mm_C} (hM : MS sh) {f : Nat → Int32} {l : Nat} : ∀ (g n : Nat) (V : hV) (T : hP), TX V f l → V.1 313 0 = Int32.ofNat n → n ≤ 5 → 6 ≤ g + n → TO l T → WP S 10 mm_m229 11 [some (.ref 312)] [] (hH sh (pp V T)) (qe (.inl none) (hH sh (pp (flF f l g n V T).1 (flF f l g n V T).2))) ∧ TO l (flF f l g n V T).2 ∧ (∃ n' : Nat, (flF f l g n V T).1.1 313 0 = Int32.ofNat n' ∧ n' ≤ 5) ∧ (∀ a k, a ≠ 313 → (flF f l g n V T).1.1 a k = V.1 a k) := by
  intro g
  induction g with
  | zero => intro n V T hT hn h5 hg; omega
  | succ g ih =>
    intro n V T hT hn h5 hg hO
    obtain ⟨r1, hr1⟩ : ∃ r1, rnP (V.1 313) f l 80 n T = r1 := ⟨_, rfl⟩
    have EN := e_nameF (S := S) (T := T) hM hT (to_600 hO hT.2.1) (G := V.1 313) rfl hn h5
    have hO1 := to_rn (G := V.1 313) (f := f) (base := 80) (many := n) hO
    have hw := fun h => rn_w (G := V.1 313) (f := f) (base := 80) (many := n) hO hT.2.1 h
    rw [hr1] at EN hO1 hw
    obtain ⟨X, hX⟩ : ∃ X, flX n r1 = X := ⟨_, rfl⟩
    have hO2 : TO l X := by rw [← hX]; exact to_mu (by decide) (to_mu (by decide) hO1)
    have hX0 : er X = 0 → er r1.2 = 0 := by
      rw [← hX]
      exact fun h => mu_er (by decide) (mu_er (by decide) h)
    have hXb : X.2.1 = r1.2.2.1 := by rw [← hX]; rfl
    have hXw : X.2.2.1 = r1.2.2.2.1 := by rw [← hX]; rfl
    have hX5 : er X = 0 → n < 5 := by
      intro h
      refine Nat.lt_of_not_le fun z => ?_
      rw [← hX] at h
      unfold flX at h
      rw [if_neg (Nat.not_lt.mpr z)] at h
      have h1 : er (muP (if r1.1 = -1 then 1 else 0) 2 r1.2) = 0 := mu_er (by decide) h
      rw [er_mu0 h1] at h
      exact absurd h (by decide)
    have hR : flF f l (g + 1) n V T = if er X = 0 then (if 0 < wn f l X.1 then flF f l g (n + 1) (flV f l V X n) (nxP f l X) else (up (flV f l V X n) 313 2 (wsN (n + 1)), nxP f l X)) else (V, X) := by
      rw [flF.eq_2, hr1, hX]
    rw [hR]
    have go : ∀ {Q}, WP S 10 mm_m229 48 [some (.ref 312)] [] (hH sh (pp V X)) Q → WP S 10 mm_m229 11 [some (.ref 312)] [] (hH sh (pp V T)) Q := by
      intro Q E48
      rw [← hX] at E48
      unfold flX at E48
      by_cases c1 : r1.1 = -1
      · rw [if_pos c1] at E48
        by_cases c2 : n < 5
        · rw [if_pos c2] at E48
          refine wp_aload_n k229_11 rfl rfl ?_
          refine wp_aload_n k229_12 rfl rfl ?_
          refine wp_iconst 0 k229_13 (by decide) ?_
          refine wp_cv (st2 := [_]) k229_14 EN (by decide) rfl rfl rfl rfl (by decide) hM.o (by decide) ?_
          refine wp_iconst (-1) k229_17 (by decide) ?_
          refine wp_if_icmp_ne_F k229_18 c1 ?_
          refine wp_iconst 1 k229_21 (by decide) ?_
          refine wp_goto k229_22 ?_
          refine wp_iconst 2 k229_26 (by decide) ?_
          refine wp_cvn (st2 := []) k229_27 (e_must hM) (by decide) rfl rfl rfl rfl (by decide) hM.o (by decide) ?_
          refine wp_aload_n k229_30 rfl rfl ?_
          refine wp_aload_n k229_31 rfl rfl ?_
          refine wp_cv (st2 := [_]) k229_32 (e_factsP hM hn) (by decide) rfl rfl rfl rfl (by decide) hM.o (by decide) ?_
          refine wp_iconst 5 k229_35 (by decide) ?_
          refine wp_if_icmp_ge_F k229_36 (i_lt c2 (by decide)) ?_
          refine wp_iconst 1 k229_39 (by decide) ?_
          refine wp_goto k229_40 ?_
          refine wp_iconst 3 k229_44 (by decide) ?_
          refine wp_cvn (st2 := []) k229_45 (e_must hM) (by decide) rfl rfl rfl rfl (by decide) hM.o (by decide) ?_
          exact E48
        · rw [if_neg c2] at E48
          refine wp_aload_n k229_11 rfl rfl ?_
          refine wp_aload_n k229_12 rfl rfl ?_
          refine wp_iconst 0 k229_13 (by decide) ?_
          refine wp_cv (st2 := [_]) k229_14 EN (by decide) rfl rfl rfl rfl (by decide) hM.o (by decide) ?_
          refine wp_iconst (-1) k229_17 (by decide) ?_
          refine wp_if_icmp_ne_F k229_18 c1 ?_
          refine wp_iconst 1 k229_21 (by decide) ?_
          refine wp_goto k229_22 ?_
          refine wp_iconst 2 k229_26 (by decide) ?_
          refine wp_cvn (st2 := []) k229_27 (e_must hM) (by decide) rfl rfl rfl rfl (by decide) hM.o (by decide) ?_
          refine wp_aload_n k229_30 rfl rfl ?_
          refine wp_aload_n k229_31 rfl rfl ?_
          refine wp_cv (st2 := [_]) k229_32 (e_factsP hM hn) (by decide) rfl rfl rfl rfl (by decide) hM.o (by decide) ?_
          refine wp_iconst 5 k229_35 (by decide) ?_
          refine wp_if_icmp_ge_T k229_36 (i_nlt (Nat.not_lt.mp c2) (by omega)) ?_
          refine wp_iconst 0 k229_43 (by decide) ?_
          refine wp_iconst 3 k229_44 (by decide) ?_
          refine wp_cvn (st2 := []) k229_45 (e_must hM) (by decide) rfl rfl rfl rfl (by decide) hM.o (by decide) ?_
          exact E48
      · rw [if_neg c1] at E48
        by_cases c2 : n < 5
        · rw [if_pos c2] at E48
          refine wp_aload_n k229_11 rfl rfl ?_
          refine wp_aload_n k229_12 rfl rfl ?_
          refine wp_iconst 0 k229_13 (by decide) ?_
          refine wp_cv (st2 := [_]) k229_14 EN (by decide) rfl rfl rfl rfl (by decide) hM.o (by decide) ?_
          refine wp_iconst (-1) k229_17 (by decide) ?_
          refine wp_if_icmp_ne_T k229_18 c1 ?_
          refine wp_iconst 0 k229_25 (by decide) ?_
          refine wp_iconst 2 k229_26 (by decide) ?_
          refine wp_cvn (st2 := []) k229_27 (e_must hM) (by decide) rfl rfl rfl rfl (by decide) hM.o (by decide) ?_
          refine wp_aload_n k229_30 rfl rfl ?_
          refine wp_aload_n k229_31 rfl rfl ?_
          refine wp_cv (st2 := [_]) k229_32 (e_factsP hM hn) (by decide) rfl rfl rfl rfl (by decide) hM.o (by decide) ?_
          refine wp_iconst 5 k229_35 (by decide) ?_
          refine wp_if_icmp_ge_F k229_36 (i_lt c2 (by decide)) ?_
          refine wp_iconst 1 k229_39 (by decide) ?_
          refine wp_goto k229_40 ?_
          refine wp_iconst 3 k229_44 (by decide) ?_
          refine wp_cvn (st2 := []) k229_45 (e_must hM) (by decide) rfl rfl rfl rfl (by decide) hM.o (by decide) ?_
          exact E48
        · rw [if_neg c2] at E48
          refine wp_aload_n k229_11 rfl rfl ?_
          refine wp_aload_n k229_12 rfl rfl ?_
          refine wp_iconst 0 k229_13 (by decide) ?_
          refine wp_cv (st2 := [_]) k229_14 EN (by decide) rfl rfl rfl rfl (by decide) hM.o (by decide) ?_
          refine wp_iconst (-1) k229_17 (by decide) ?_
          refine wp_if_icmp_ne_T k229_18 c1 ?_
          refine wp_iconst 0 k229_25 (by decide) ?_
          refine wp_iconst 2 k229_26 (by decide) ?_
          refine wp_cvn (st2 := []) k229_27 (e_must hM) (by decide) rfl rfl rfl rfl (by decide) hM.o (by decide) ?_
          refine wp_aload_n k229_30 rfl rfl ?_
          refine wp_aload_n k229_31 rfl rfl ?_
          refine wp_cv (st2 := [_]) k229_32 (e_factsP hM hn) (by decide) rfl rfl rfl rfl (by decide) hM.o (by decide) ?_
          refine wp_iconst 5 k229_35 (by decide) ?_
          refine wp_if_icmp_ge_T k229_36 (i_nlt (Nat.not_lt.mp c2) (by omega)) ?_
          refine wp_iconst 0 k229_43 (by decide) ?_
          refine wp_iconst 3 k229_44 (by decide) ?_
          refine wp_cvn (st2 := []) k229_45 (e_must hM) (by decide) rfl rfl rfl rfl (by decide) hM.o (by decide) ?_
          exact E48
    by_cases h0 : er X = 0
    · rw [if_pos h0]
      have hn5 := hX5 h0
      obtain ⟨w1, w2⟩ := hw (hX0 h0)
      rw [← hXb] at w1
      rw [← hXw] at w2
      have hV1 : (flV f l V X n).1 313 0 = Int32.ofNat (n + 1) := up_eq _ _ _ _
      have hTV : TX (flV f l V X n) f l := hT
      have hfr : ∀ a k, a ≠ 313 → (flV f l V X n).1 a k = V.1 a k := fun a k h => by
        unfold flV
        rw [up_ne _ _ (Or.inl h), lay_ne h]
      have hl0 : (layV V f l X.2.1 X.2.2.1 (80 + 7 * n)).1 313 0 = Int32.ofNat n := by rw [lay_lo (by omega)]; exact hn
      have EL := e_laysName (S := S) (V := V) (T := X) hM hT (t := 80 + 7 * n) w1 w2 (by omega)
      have EW := e_isWord (S := S) (V := flV f l V X n) (T := X) hM hTV (by have := to_600 hO2 hT.2.1; omega)
      by_cases hwd : 0 < wn f l X.1
      · rw [if_pos hwd]
        obtain ⟨EI, i1, i2, i3⟩ := ih (n + 1) (flV f l V X n) (nxP f l X) hTV hV1 (by omega) (by omega) (to_nx hO2)
        refine ⟨go ?_, i1, i2, fun a k h => (i3 a k h).trans (hfr a k h)⟩
        refine wp_aload_n k229_48 rfl rfl ?_
        refine wp_getI k229_49 (by decide) hM.o rfl (X.2.2.2.1) rfl ?_
        refine wp_if_eq_T k229_52 h0 ?_
        refine wp_aload_n k229_56 rfl rfl ?_
        refine wp_bipush 80 k229_57 (by decide) ?_
        refine wp_bipush 7 k229_59 (by decide) ?_
        refine wp_aload_n k229_61 rfl rfl ?_
        refine wp_cv (st2 := [_, _, _]) k229_62 (e_factsP hM hn) (by decide) rfl rfl rfl rfl (by decide) hM.o (by decide) ?_
        refine wp_imul k229_65 ?_
        refine wp_cast (show (7 : Int32) * Int32.ofNat (n) = Int32.ofNat (7 * n) from (Int32.ofNat_mul 7 _).symm) ?_
        refine wp_iadd k229_66 ?_
        refine wp_cast (show (80 : Int32) + Int32.ofNat (7 * n) = Int32.ofNat (80 + (7 * n)) from (Int32.ofNat_add 80 _).symm) ?_
        refine wp_cvn (st2 := []) k229_67 EL (by decide) rfl rfl rfl rfl (by decide) hM.o (by decide) ?_
        refine wp_aload_n k229_70 rfl rfl ?_
        refine wp_getR k229_71 (by decide) hM.o rfl ?_
        refine wp_iconst 0 k229_74 (by decide) ?_
        refine wp_dup2 k229_75 rfl rfl ?_
        refine wp_ialoadP k229_76 (by decide) (hM.a313) (by decide) 0 (by decide) (by decide) (Int32.ofNat n) hl0 ?_
        refine wp_iconst 1 k229_77 (by decide) ?_
        refine wp_iadd k229_78 ?_
        refine wp_cast (show Int32.ofNat (n) + (1 : Int32) = Int32.ofNat (n + 1) from (Int32.ofNat_add _ 1).symm) ?_
        refine wp_iastoreP k229_79 (by decide) (hM.a313) (by decide) 0 (by decide) (by decide) ?_
        refine wp_aload_n k229_80 rfl rfl ?_
        refine wp_cv (st2 := []) k229_81 EW (by decide) rfl rfl rfl rfl (by decide) hM.o (by decide) ?_
        refine wp_if_ne_T k229_84 (bI_n0.mpr (decide_eq_true ⟨h0, hwd⟩)) ?_
        exact EI
      · rw [if_neg hwd]
        refine ⟨go ?_, to_nx hO2, ⟨n + 1, ?_, by omega⟩, fun a k h => ?_⟩
        · by_cases c5 : n + 1 = 5
          · rw [show wsN (n + 1) = -1 from if_pos c5]
            refine wp_aload_n k229_48 rfl rfl ?_
            refine wp_getI k229_49 (by decide) hM.o rfl (X.2.2.2.1) rfl ?_
            refine wp_if_eq_T k229_52 h0 ?_
            refine wp_aload_n k229_56 rfl rfl ?_
            refine wp_bipush 80 k229_57 (by decide) ?_
            refine wp_bipush 7 k229_59 (by decide) ?_
            refine wp_aload_n k229_61 rfl rfl ?_
            refine wp_cv (st2 := [_, _, _]) k229_62 (e_factsP hM hn) (by decide) rfl rfl rfl rfl (by decide) hM.o (by decide) ?_
            refine wp_imul k229_65 ?_
            refine wp_cast (show (7 : Int32) * Int32.ofNat (n) = Int32.ofNat (7 * n) from (Int32.ofNat_mul 7 _).symm) ?_
            refine wp_iadd k229_66 ?_
            refine wp_cast (show (80 : Int32) + Int32.ofNat (7 * n) = Int32.ofNat (80 + (7 * n)) from (Int32.ofNat_add 80 _).symm) ?_
            refine wp_cvn (st2 := []) k229_67 EL (by decide) rfl rfl rfl rfl (by decide) hM.o (by decide) ?_
            refine wp_aload_n k229_70 rfl rfl ?_
            refine wp_getR k229_71 (by decide) hM.o rfl ?_
            refine wp_iconst 0 k229_74 (by decide) ?_
            refine wp_dup2 k229_75 rfl rfl ?_
            refine wp_ialoadP k229_76 (by decide) (hM.a313) (by decide) 0 (by decide) (by decide) (Int32.ofNat n) hl0 ?_
            refine wp_iconst 1 k229_77 (by decide) ?_
            refine wp_iadd k229_78 ?_
            refine wp_cast (show Int32.ofNat (n) + (1 : Int32) = Int32.ofNat (n + 1) from (Int32.ofNat_add _ 1).symm) ?_
            refine wp_iastoreP k229_79 (by decide) (hM.a313) (by decide) 0 (by decide) (by decide) ?_
            refine wp_aload_n k229_80 rfl rfl ?_
            refine wp_cv (st2 := []) k229_81 EW (by decide) rfl rfl rfl rfl (by decide) hM.o (by decide) ?_
            refine wp_if_ne_F k229_84 (bI_0.mpr (decide_eq_false (fun z => hwd z.2))) ?_
            refine wp_aload_n k229_87 rfl rfl ?_
            refine wp_getR k229_88 (by decide) hM.o rfl ?_
            refine wp_iconst 2 k229_91 (by decide) ?_
            refine wp_aload_n k229_92 rfl rfl ?_
            refine wp_cv (st2 := [_, _]) k229_93 (e_factsP (V := flV f l V X n) hM hV1) (by decide) rfl rfl rfl rfl (by decide) hM.o (by decide) ?_
            refine wp_iconst 5 k229_96 (by decide) ?_
            refine wp_if_icmp_ne_F k229_97 (by rw [c5]; decide) ?_
            refine wp_iconst (-1) k229_100 (by decide) ?_
            refine wp_goto k229_101 ?_
            refine wp_iastoreP k229_114 (by decide) (hM.a313) (by decide) 2 (by decide) (by decide) ?_
            exact wp_retn k229_115 rfl rfl
          · rw [show wsN (n + 1) = _ from if_neg c5]
            refine wp_aload_n k229_48 rfl rfl ?_
            refine wp_getI k229_49 (by decide) hM.o rfl (X.2.2.2.1) rfl ?_
            refine wp_if_eq_T k229_52 h0 ?_
            refine wp_aload_n k229_56 rfl rfl ?_
            refine wp_bipush 80 k229_57 (by decide) ?_
            refine wp_bipush 7 k229_59 (by decide) ?_
            refine wp_aload_n k229_61 rfl rfl ?_
            refine wp_cv (st2 := [_, _, _]) k229_62 (e_factsP hM hn) (by decide) rfl rfl rfl rfl (by decide) hM.o (by decide) ?_
            refine wp_imul k229_65 ?_
            refine wp_cast (show (7 : Int32) * Int32.ofNat (n) = Int32.ofNat (7 * n) from (Int32.ofNat_mul 7 _).symm) ?_
            refine wp_iadd k229_66 ?_
            refine wp_cast (show (80 : Int32) + Int32.ofNat (7 * n) = Int32.ofNat (80 + (7 * n)) from (Int32.ofNat_add 80 _).symm) ?_
            refine wp_cvn (st2 := []) k229_67 EL (by decide) rfl rfl rfl rfl (by decide) hM.o (by decide) ?_
            refine wp_aload_n k229_70 rfl rfl ?_
            refine wp_getR k229_71 (by decide) hM.o rfl ?_
            refine wp_iconst 0 k229_74 (by decide) ?_
            refine wp_dup2 k229_75 rfl rfl ?_
            refine wp_ialoadP k229_76 (by decide) (hM.a313) (by decide) 0 (by decide) (by decide) (Int32.ofNat n) hl0 ?_
            refine wp_iconst 1 k229_77 (by decide) ?_
            refine wp_iadd k229_78 ?_
            refine wp_cast (show Int32.ofNat (n) + (1 : Int32) = Int32.ofNat (n + 1) from (Int32.ofNat_add _ 1).symm) ?_
            refine wp_iastoreP k229_79 (by decide) (hM.a313) (by decide) 0 (by decide) (by decide) ?_
            refine wp_aload_n k229_80 rfl rfl ?_
            refine wp_cv (st2 := []) k229_81 EW (by decide) rfl rfl rfl rfl (by decide) hM.o (by decide) ?_
            refine wp_if_ne_F k229_84 (bI_0.mpr (decide_eq_false (fun z => hwd z.2))) ?_
            refine wp_aload_n k229_87 rfl rfl ?_
            refine wp_getR k229_88 (by decide) hM.o rfl ?_
            refine wp_iconst 2 k229_91 (by decide) ?_
            refine wp_aload_n k229_92 rfl rfl ?_
            refine wp_cv (st2 := [_, _]) k229_93 (e_factsP (V := flV f l V X n) hM hV1) (by decide) rfl rfl rfl rfl (by decide) hM.o (by decide) ?_
            refine wp_iconst 5 k229_96 (by decide) ?_
            refine wp_if_icmp_ne_T k229_97 (fun z => c5 (i_inj (b := 5) (by omega) (by omega) z)) ?_
            refine wp_iconst 1 k229_104 (by decide) ?_
            refine wp_iconst 1 k229_105 (by decide) ?_
            refine wp_aload_n k229_106 rfl rfl ?_
            refine wp_cv (st2 := [_, _, _, _]) k229_107 (e_factsP (V := flV f l V X n) hM hV1) (by decide) rfl rfl rfl rfl (by decide) hM.o (by decide) ?_
            refine wp_ishl k229_110 ?_
            refine wp_ishl k229_111 ?_
            refine wp_iconst 1 k229_112 (by decide) ?_
            refine wp_isub k229_113 ?_
            refine wp_iastoreP k229_114 (by decide) (hM.a313) (by decide) 2 (by decide) (by decide) ?_
            exact wp_retn k229_115 rfl rfl
        · rw [up_ne _ _ (Or.inr (by decide))]
          exact hV1
        · rw [up_ne _ _ (Or.inl h)]
          exact hfr a k h
    · rw [if_neg h0]
      refine ⟨go ?_, hO2, ⟨n, hn, h5⟩, fun a k h => rfl⟩
      refine wp_aload_n k229_48 rfl rfl ?_
      refine wp_getI k229_49 (by decide) hM.o rfl (X.2.2.2.1) rfl ?_
      refine wp_if_eq_F k229_52 h0 ?_
      exact wp_retn k229_55 rfl rfl
theorem e_factsLine {S : ww_S} {sh : List mm_C} {V : hV} {T : hP} (hM : MS sh) {f : Nat → Int32} {l : Nat} (hT : TX V f l) (hn : V.1 313 0 = Int32.ofNat 0) (hO : TO l T) : EV S 11 229 [.ref 312] (hH sh (pp V T)) (.inl none) (hH sh (pp (flF f l 6 0 V (muP (bI (seB f l T 5 39132472205098390151768970679218299994214)) 1 (taP f l T 5 39132472205098390151768970679218299994214))).1 (flF f l 6 0 V (muP (bI (seB f l T 5 39132472205098390151768970679218299994214)) 1 (taP f l T 5 39132472205098390151768970679218299994214))).2)) ∧ TO l (flF f l 6 0 V (muP (bI (seB f l T 5 39132472205098390151768970679218299994214)) 1 (taP f l T 5 39132472205098390151768970679218299994214))).2 ∧ (∃ n' : Nat, (flF f l 6 0 V (muP (bI (seB f l T 5 39132472205098390151768970679218299994214)) 1 (taP f l T 5 39132472205098390151768970679218299994214))).1.1 313 0 = Int32.ofNat n' ∧ n' ≤ 5) ∧ (∀ a k, a ≠ 313 → (flF f l 6 0 V (muP (bI (seB f l T 5 39132472205098390151768970679218299994214)) 1 (taP f l T 5 39132472205098390151768970679218299994214))).1.1 a k = V.1 a k) := by
  have hm : TO l (muP (bI (seB f l T 5 39132472205098390151768970679218299994214)) 1 (taP f l T 5 39132472205098390151768970679218299994214)) := to_mu (by decide) (to_ta hO)
  obtain ⟨E, g⟩ := l_factsLine (S := S) hM 6 0 V _ hT hn (by omega) (by omega) hm
  refine ⟨ev_qe P229 rfl ?_, g⟩
  refine wp_aload_n k229_0 rfl rfl ?_
  refine wp_aload_n k229_1 rfl rfl ?_
  refine wp_ldcR k229_2 ?_
  refine wp_cv (st2 := [_]) k229_4 (e_takes (T := T) hM hT (by have := to_600 hO hT.2.1; omega) XS22) (by decide) rfl rfl rfl rfl (by decide) hM.o (by decide) ?_
  refine wp_iconst 1 k229_7 (by decide) ?_
  refine wp_cvn (st2 := []) k229_8 (e_must hM) (by decide) rfl rfl rfl rfl (by decide) hM.o (by decide) ?_
  exact E
end M15
