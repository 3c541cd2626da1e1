section M31
/-! ===== the reference: who is told ===== -/
def tdT (set : Int32) (k : Int32 × hP) : hP := muP (rfx set k) 2 k.2
def tdS (set : Int32) (k : Int32 × hP) : Int32 := set ||| if er (tdT set k) = 0 then 1 <<< (k.1 &&& 31) else 0
def tdE (f : Nat → Int32) (l : Nat) (X : hP) : hP := muP (bI (seB f l (nxP f l X) 4 9190466853443997336447601344628)) 1 (taP f l (nxP f l X) 4 9190466853443997336447601344628)
def tdF (G f : Nat → Int32) (l np : Nat) : Nat → Int32 → hP → Int32 × hP
  | 0, set, T => (set, T)
  | g + 1, set, T => if (er (tdT set (knP G f l 115 np T)) = 0 ∧ 0 < wn f l (tdT set (knP G f l 115 np T)).1) ∧ ¬ seB f l (tdT set (knP G f l 115 np T)) 4 9190466853443997336447601344628 = true then tdF G f l np g (tdS set (knP G f l 115 np T)) (nxP f l (tdT set (knP G f l 115 np T))) else (tdS set (knP G f l 115 np T), tdE f l (tdT set (knP G f l 115 np T)))
theorem kn_er {G f : Nat → Int32} {l base many : Nat} {T : hP} (h : er (knP G f l base many T).2 = 0) : er T = 0 := by
  have h3 : er (rnP G f l base many T).2 = 0 := mu_er (by decide) h
  refine Decidable.byContradiction fun z => ?_
  unfold rnP at h3
  rw [if_neg z] at h3
  exact z h3
theorem l_told {S : ww_S} {sh : List mm_C} {V : hV} (hM : MS sh) {f : Nat → Int32} {l : Nat} (hT : TX V f l) {G : Nat → Int32} (hg : V.1 313 = G) {np : Nat} (hnp : G 1 = Int32.ofNat np) (h5 : np ≤ 5) : ∀ (g : Nat) (set : Int32) (y : Option Value) (T : hP), TO l T → (if er T = 0 then l + 2 - T.1 else 0) + 1 ≤ g → WP S 10 mm_m249 2 [some (.ref 312), some (.int set), y] [] (hH sh (pp V T)) (qe (.inl (some (.int (tdF G f l np g set T).1))) (hH sh (pp V (tdF G f l np g set T).2))) ∧ TO l (tdF G f l np g set T).2 := by
  intro g
  induction g with
  | zero => intro set y T hO hg; omega
  | succ g ih =>
    intro set y T hO hgg
    have EK := e_knownP (S := S) (T := T) hM hT (to_600 hO hT.2.1) hg hnp h5
    have hO2 := to_kn (G := G) (f := f) (base := 115) (many := np) hO
    have hgo := fun h => kn_go (G := G) (f := f) (base := 115) (many := np) (T := T) h hO
    have hke := fun h => kn_er (G := G) (f := f) (l := l) (base := 115) (many := np) (T := T) h
    have hF : tdF G f l np (g + 1) set T = _ := tdF.eq_2 G f l np set T g
    obtain ⟨k1, hk1⟩ : ∃ k1, knP G f l 115 np T = k1 := ⟨_, rfl⟩
    rw [hk1] at EK hO2 hgo hke hF
    obtain ⟨X, hX⟩ : ∃ X, tdT set k1 = X := ⟨_, rfl⟩
    have hOX : TO l X := by rw [← hX]; exact to_mu (by decide) hO2
    have hXk : er X = 0 → er k1.2 = 0 := by rw [← hX]; exact mu_er (by decide)
    have hX1 : X.1 = k1.2.1 := by rw [← hX]; rfl
    have hON := to_nx (f := f) hOX
    have EW := e_isWord (S := S) (V := V) (T := X) hM hT (by have := to_600 hOX hT.2.1; omega)
    have ES := e_sees2 (S := S) (V := V) (a := X.1) (e := er X) (ea := X.2.2.2.2) hM hT (by have := to_600 hOX hT.2.1; omega) XS20
    have ET := e_takes (S := S) (V := V) (T := nxP f l X) hM hT (by have := to_600 hON hT.2.1; omega) XS20
    obtain ⟨Y, hY⟩ : ∃ Y, tdE f l X = Y := ⟨_, rfl⟩
    have EM : EV S 2 204 [.ref 312, .int (bI (seB f l (nxP f l X) 4 9190466853443997336447601344628)), .int 1] (hH sh (pp V (taP f l (nxP f l X) 4 9190466853443997336447601344628))) (.inl none) (hH sh (pp V Y)) := by
      rw [← hY]
      exact e_must (S := S) (sh := sh) (V := V) (a := (taP f l (nxP f l X) 4 9190466853443997336447601344628).1) (b := (taP f l (nxP f l X) 4 9190466853443997336447601344628).2.1) (w := (taP f l (nxP f l X) 4 9190466853443997336447601344628).2.2.1) (e := er (taP f l (nxP f l X) 4 9190466853443997336447601344628)) (ea := (taP f l (nxP f l X) 4 9190466853443997336447601344628).2.2.2.2) hM
    have hOY : TO l Y := by rw [← hY]; exact to_mu (by decide) (to_ta hON)
    rw [hX] at hF
    obtain ⟨s2, hs2⟩ : ∃ s2, tdS set k1 = s2 := ⟨_, rfl⟩
    rw [hs2, hY] at hF
    have go : ∀ {Q}, (∀ y, WP S 10 mm_m249 50 [some (.ref 312), some (.int s2), y] [] (hH sh (pp V X)) Q) → WP S 10 mm_m249 2 [some (.ref 312), some (.int set), y] [] (hH sh (pp V T)) Q := by
      intro Q E50
      have E50 := E50 (some (.int k1.1))
      rw [← hs2, ← hX] at E50
      unfold tdS tdT at E50
      by_cases h1 : er k1.2 = 0
      · by_cases h2 : hasB set k1.1 = true
        · have hx : rfx set k1 = 0 := by
            unfold rfx
            rw [if_neg (by rw [h2]; intro h; exact absurd h.2 (by decide)), if_pos h1]
          rw [hx] at E50
          have h3 : ¬ er (muP 0 2 k1.2) = 0 := by rw [er_mu0 h1]; decide
          rw [if_neg h3] at E50
          refine wp_aload_n k249_2 rfl rfl ?_
          refine wp_iconst 1 k249_3 (by decide) ?_
          refine wp_cv (st2 := []) k249_4 EK (by decide) rfl rfl rfl rfl (by decide) hM.o (by decide) ?_
          refine wp_istore_n (L1 := [_, _, _]) k249_7 rfl rfl ?_
          refine wp_aload_n k249_8 rfl rfl ?_
          refine wp_aload_n k249_9 rfl rfl ?_
          refine wp_getI k249_10 (by decide) hM.o rfl (k1.2.2.2.2.1) rfl ?_
          refine wp_if_ne_F k249_13 h1 ?_
          refine wp_iload_n k249_16 rfl rfl ?_
          refine wp_iload_n k249_17 rfl rfl ?_
          refine wp_cs (st2 := [_]) k249_18 (e_has) (by decide) rfl rfl rfl (by decide) ?_
          refine wp_if_ne_T k249_21 (bI_n0.mpr h2) ?_
          refine wp_iconst 0 k249_28 (by decide) ?_
          refine wp_iconst 2 k249_29 (by decide) ?_
          refine wp_cvn (st2 := []) k249_30 (e_must hM) (by decide) rfl rfl rfl rfl (by decide) hM.o (by decide) ?_
          refine wp_iload_n k249_33 rfl rfl ?_
          refine wp_aload_n k249_34 rfl rfl ?_
          refine wp_getI k249_35 (by decide) hM.o rfl ((muP 0 2 k1.2).2.2.2.1) rfl ?_
          refine wp_if_ne_T k249_38 h3 ?_
          refine wp_iconst 0 k249_47 (by decide) ?_
          refine wp_ior k249_48 ?_
          refine wp_istore_n (L1 := [_, _, _]) k249_49 rfl rfl ?_
          exact E50
        · have hx : rfx set k1 = 1 := by
            unfold rfx
            rw [if_pos ⟨h1, Bool.eq_false_iff.mpr h2⟩]
          rw [hx] at E50
          have h3 : er (muP 1 2 k1.2) = 0 := by rw [er_mu1]; exact h1
          rw [if_pos h3] at E50
          refine wp_aload_n k249_2 rfl rfl ?_
          refine wp_iconst 1 k249_3 (by decide) ?_
          refine wp_cv (st2 := []) k249_4 EK (by decide) rfl rfl rfl rfl (by decide) hM.o (by decide) ?_
          refine wp_istore_n (L1 := [_, _, _]) k249_7 rfl rfl ?_
          refine wp_aload_n k249_8 rfl rfl ?_
          refine wp_aload_n k249_9 rfl rfl ?_
          refine wp_getI k249_10 (by decide) hM.o rfl (k1.2.2.2.2.1) rfl ?_
          refine wp_if_ne_F k249_13 h1 ?_
          refine wp_iload_n k249_16 rfl rfl ?_
          refine wp_iload_n k249_17 rfl rfl ?_
          refine wp_cs (st2 := [_]) k249_18 (e_has) (by decide) rfl rfl rfl (by decide) ?_
          refine wp_if_ne_F k249_21 (bI_0.mpr (Bool.eq_false_iff.mpr h2)) ?_
          refine wp_iconst 1 k249_24 (by decide) ?_
          refine wp_goto k249_25 ?_
          refine wp_iconst 2 k249_29 (by decide) ?_
          refine wp_cvn (st2 := []) k249_30 (e_must hM) (by decide) rfl rfl rfl rfl (by decide) hM.o (by decide) ?_
          refine wp_iload_n k249_33 rfl rfl ?_
          refine wp_aload_n k249_34 rfl rfl ?_
          refine wp_getI k249_35 (by decide) hM.o rfl ((muP 1 2 k1.2).2.2.2.1) rfl ?_
          refine wp_if_ne_F k249_38 h3 ?_
          refine wp_iconst 1 k249_41 (by decide) ?_
          refine wp_iload_n k249_42 rfl rfl ?_
          refine wp_ishl k249_43 ?_
          refine wp_goto k249_44 ?_
          refine wp_ior k249_48 ?_
          refine wp_istore_n (L1 := [_, _, _]) k249_49 rfl rfl ?_
          exact E50
      · have hx : rfx set k1 = 1 := by
          unfold rfx
          rw [if_neg (fun h => h1 h.1), if_neg h1]
        rw [hx] at E50
        have h3 : ¬ er (muP 1 2 k1.2) = 0 := by rw [er_mu1]; exact h1
        rw [if_neg h3] at E50
        refine wp_aload_n k249_2 rfl rfl ?_
        refine wp_iconst 1 k249_3 (by decide) ?_
        refine wp_cv (st2 := []) k249_4 EK (by decide) rfl rfl rfl rfl (by decide) hM.o (by decide) ?_
        refine wp_istore_n (L1 := [_, _, _]) k249_7 rfl rfl ?_
        refine wp_aload_n k249_8 rfl rfl ?_
        refine wp_aload_n k249_9 rfl rfl ?_
        refine wp_getI k249_10 (by decide) hM.o rfl (k1.2.2.2.2.1) rfl ?_
        refine wp_if_ne_T k249_13 h1 ?_
        refine wp_iconst 1 k249_24 (by decide) ?_
        refine wp_goto k249_25 ?_
        refine wp_iconst 2 k249_29 (by decide) ?_
        refine wp_cvn (st2 := []) k249_30 (e_must hM) (by decide) rfl rfl rfl rfl (by decide) hM.o (by decide) ?_
        refine wp_iload_n k249_33 rfl rfl ?_
        refine wp_aload_n k249_34 rfl rfl ?_
        refine wp_getI k249_35 (by decide) hM.o rfl ((muP 1 2 k1.2).2.2.2.1) rfl ?_
        refine wp_if_ne_T k249_38 h3 ?_
        refine wp_iconst 0 k249_47 (by decide) ?_
        refine wp_ior k249_48 ?_
        refine wp_istore_n (L1 := [_, _, _]) k249_49 rfl rfl ?_
        exact E50
    by_cases c : er X = 0 ∧ 0 < wn f l X.1
    · by_cases d : seB f l X 4 9190466853443997336447601344628 = true
      · rw [hF, if_neg (fun z => z.2 d)]
        refine ⟨go fun y2 => ?_, hOY⟩
        refine wp_aload_n k249_50 rfl rfl ?_
        refine wp_cv (st2 := []) k249_51 EW (by decide) rfl rfl rfl rfl (by decide) hM.o (by decide) ?_
        refine wp_if_eq_F k249_54 (bI_n0.mpr (decide_eq_true c)) ?_
        refine wp_aload_n k249_57 rfl rfl ?_
        refine wp_ldcR k249_58 ?_
        refine wp_cv (st2 := []) k249_60 ES (by decide) rfl rfl rfl rfl (by decide) hM.o (by decide) ?_
        refine wp_if_eq_F k249_63 (bI_n0.mpr d) ?_
        refine wp_aload_n k249_66 rfl rfl ?_
        refine wp_aload_n k249_67 rfl rfl ?_
        refine wp_ldcR k249_68 ?_
        refine wp_cv (st2 := [_]) k249_70 ET (by decide) rfl rfl rfl rfl (by decide) hM.o (by decide) ?_
        refine wp_iconst 1 k249_73 (by decide) ?_
        refine wp_cvn (st2 := []) k249_74 EM (by decide) rfl rfl rfl rfl (by decide) hM.o (by decide) ?_
        refine wp_iload_n k249_77 rfl rfl ?_
        exact wp_reti k249_78 rfl rfl rfl
      · rw [hF, if_pos ⟨c, d⟩]
        have hc := c.1
        have hge := hgo (hXk hc)
        have hT0 := hke (hXk hc)
        rw [if_pos hT0] at hgg
        have hsk : X.1 ≤ sk f l X.1 := skF_ge f l l X.1
        have hTl := hO.2 hT0
        have hm : (if er (nxP f l X) = 0 then l + 2 - (nxP f l X).1 else 0) + 1 ≤ g := by
          rw [if_pos (show er (nxP f l X) = 0 from hc)]
          show l + 2 - sk f l X.1 + 1 ≤ g
          omega
        have EI := fun y2 => (ih s2 y2 (nxP f l X) hON hm).1
        refine ⟨go fun y2 => ?_, (ih s2 none (nxP f l X) hON hm).2⟩
        refine wp_aload_n k249_50 rfl rfl ?_
        refine wp_cv (st2 := []) k249_51 EW (by decide) rfl rfl rfl rfl (by decide) hM.o (by decide) ?_
        refine wp_if_eq_F k249_54 (bI_n0.mpr (decide_eq_true c)) ?_
        refine wp_aload_n k249_57 rfl rfl ?_
        refine wp_ldcR k249_58 ?_
        refine wp_cv (st2 := []) k249_60 ES (by decide) rfl rfl rfl rfl (by decide) hM.o (by decide) ?_
        refine wp_if_eq_T k249_63 (bI_0.mpr (Bool.eq_false_iff.mpr d)) ?_
        exact EI _
    · rw [hF, if_neg (fun z => c z.1)]
      refine ⟨go fun y2 => ?_, hOY⟩
      refine wp_aload_n k249_50 rfl rfl ?_
      refine wp_cv (st2 := []) k249_51 EW (by decide) rfl rfl rfl rfl (by decide) hM.o (by decide) ?_
      refine wp_if_eq_T k249_54 (bI_0.mpr (decide_eq_false c)) ?_
      refine wp_aload_n k249_66 rfl rfl ?_
      refine wp_aload_n k249_67 rfl rfl ?_
      refine wp_ldcR k249_68 ?_
      refine wp_cv (st2 := [_]) k249_70 ET (by decide) rfl rfl rfl rfl (by decide) hM.o (by decide) ?_
      refine wp_iconst 1 k249_73 (by decide) ?_
      refine wp_cvn (st2 := []) k249_74 EM (by decide) rfl rfl rfl rfl (by decide) hM.o (by decide) ?_
      refine wp_iload_n k249_77 rfl rfl ?_
      exact wp_reti k249_78 rfl rfl rfl
theorem e_readsTold {S : ww_S} {sh : List mm_C} {V : hV} {T : hP} (hM : MS sh) {f : Nat → Int32} {l : Nat} (hT : TX V f l) {G : Nat → Int32} (hg : V.1 313 = G) {np : Nat} (hnp : G 1 = Int32.ofNat np) (h5 : np ≤ 5) (hO : TO l T) : EV S 11 249 [.ref 312] (hH sh (pp V T)) (.inl (some (.int (tdF G f l np (l + 3) 0 T).1))) (hH sh (pp V (tdF G f l np (l + 3) 0 T).2)) ∧ TO l (tdF G f l np (l + 3) 0 T).2 := by
  have h1 := l_told (S := S) hM hT hg hnp h5 (l + 3) 0
  refine ⟨ev_qe P249 rfl ?_, (h1 none T hO (by split <;> omega)).2⟩
  refine wp_iconst 0 k249_0 (by decide) ?_
  refine wp_istore_n (L1 := [_, _, _]) k249_1 rfl rfl ?_
  exact (h1 _ T hO (by split <;> omega)).1
end M31
