section M21
/-! ===== the reference: the persons' loop, the end ===== -/
def enF (f : Nat → Int32) (l : Nat) (T : hP) : hP := if er T = 0 then muP (if byt f l (sk f l T.1) = -1 then 1 else 0) 1 (nxP f l T) else T
def reP (f : Nat → Int32) (l : Nat) (X : hP) : hP := muP (bI (seB f l (nxP f l X) 4 8556641553329882635686364840050)) 1 (nxP f l (nxP f l X))
def plL (f : Nat → Int32) (l nf : Nat) : Nat → hV → hP → hV × hP
  | 0, V, T => (V, T)
  | g + 1, V, T => if er T = 0 then (if byt f l (sk f l T.1) = -1 then (V, enF f l (nxP f l T)) else if seB f l (sgP f l 59 (nxP f l T)) 6 160765180144170663739740739734469041235173086068848 = true then plL f l nf g (pnF f l nf (mm_un (V.1 313 1)) V (nxP f l (sgP f l 59 (nxP f l T)))).1 (pnF f l nf (mm_un (V.1 313 1)) V (nxP f l (sgP f l 59 (nxP f l T)))).2 else if er (reP f l (sgP f l 59 (nxP f l T))) = 0 then ((rlF f l nf (reP f l (sgP f l 59 (nxP f l T))).2.1 (up V 313 4 (-1)) (reP f l (sgP f l 59 (nxP f l T)))).1, enF f l (rlF f l nf (reP f l (sgP f l 59 (nxP f l T))).2.1 (up V 313 4 (-1)) (reP f l (sgP f l 59 (nxP f l T)))).2) else (V, reP f l (sgP f l 59 (nxP f l T)))) else (V, enF f l T)
theorem to_en {f : Nat → Int32} {l : Nat} {T : hP} (h : TO l T) : TO l (enF f l T) := by
  unfold enF
  split
  · exact to_mu (by decide) (to_nx h)
  · exact h
theorem to_re {f : Nat → Int32} {l : Nat} {T : hP} (h : TO l T) : TO l (reP f l T) := to_mu (by decide) (to_nx (to_nx h))
theorem tw_re {f : Nat → Int32} {l : Nat} {T : hP} (h : TO l T) : TW l (reP f l T) := tw_mu (by decide) (tw_nx (to_nx h))
theorem rlF_fr {f : Nat → Int32} {l nf b : Nat} {V : hV} {T : hP} {a k : Nat} (h : a ≠ 313 ∨ k ≠ 4) : (rlF f l nf b V T).1.1 a k = V.1 a k := by
  unfold rlF
  split
  · exact up_ne _ _ h
  · rfl
theorem l_end {S : ww_S} {sh : List mm_C} {V : hV} {T : hP} (hM : MS sh) {f : Nat → Int32} {l : Nat} (hT : TX V f l) (hO : TO l T) {y : Option Value} : WP S 190 mm_m234 150 [some (.ref 312), y] [] (hH sh (pp V T)) (qe (.inl none) (hH sh (pp V (enF f l T)))) := by
  unfold enF
  by_cases h0 : er T = 0
  · rw [if_pos h0]
    have EX := e_nextT (S := S) (V := V) (a := T.1) (b := T.2.1) (w := T.2.2.1) (e := er T) (ea := T.2.2.2.2) hM hT (by have := to_600 hO hT.2.1; omega)
    by_cases h1 : byt f l (sk f l T.1) = -1
    · rw [if_pos h1]
      refine wp_aload_n k234_150 rfl rfl ?_
      refine wp_getI k234_151 (by decide) hM.o rfl (T.2.2.2.1) rfl ?_
      refine wp_if_ne_F k234_154 h0 ?_
      refine wp_aload_n k234_157 rfl rfl ?_
      refine wp_aload_n k234_158 rfl rfl ?_
      refine wp_cv (st2 := [_]) k234_159 EX (by decide) rfl rfl rfl rfl (by decide) hM.o (by decide) ?_
      refine wp_iconst (-1) k234_162 (by decide) ?_
      refine wp_if_icmp_ne_F k234_163 h1 ?_
      refine wp_iconst 1 k234_166 (by decide) ?_
      refine wp_goto k234_167 ?_
      refine wp_iconst 1 k234_171 (by decide) ?_
      refine wp_cvn (st2 := []) k234_172 (e_must hM) (by decide) rfl rfl rfl rfl (by decide) hM.o (by decide) ?_
      exact wp_retn k234_175 rfl rfl
    · rw [if_neg h1]
      refine wp_aload_n k234_150 rfl rfl ?_
      refine wp_getI k234_151 (by decide) hM.o rfl (T.2.2.2.1) rfl ?_
      refine wp_if_ne_F k234_154 h0 ?_
      refine wp_aload_n k234_157 rfl rfl ?_
      refine wp_aload_n k234_158 rfl rfl ?_
      refine wp_cv (st2 := [_]) k234_159 EX (by decide) rfl rfl rfl rfl (by decide) hM.o (by decide) ?_
      refine wp_iconst (-1) k234_162 (by decide) ?_
      refine wp_if_icmp_ne_T k234_163 h1 ?_
      refine wp_iconst 0 k234_170 (by decide) ?_
      refine wp_iconst 1 k234_171 (by decide) ?_
      refine wp_cvn (st2 := []) k234_172 (e_must hM) (by decide) rfl rfl rfl rfl (by decide) hM.o (by decide) ?_
      exact wp_retn k234_175 rfl rfl
  · rw [if_neg h0]
    refine wp_aload_n k234_150 rfl rfl ?_
    refine wp_getI k234_151 (by decide) hM.o rfl (T.2.2.2.1) rfl ?_
    refine wp_if_ne_T k234_154 h0 ?_
    exact wp_retn k234_175 rfl rfl
theorem l_pers {S : ww_S} {sh : List mm_C} (hM : MS sh) {f : Nat → Int32} {l nf c : Nat} : ∀ (g m : Nat) (V : hV) (T : hP), RS V f l nf m c → TO l T → (if er T = 0 then 7 - m else 1) ≤ g → WP S 190 mm_m234 68 [some (.ref 312), some (.int 0)] [] (hH sh (pp V T)) (qe (.inl none) (hH sh (pp (plL f l nf g V T).1 (plL f l nf g V T).2))) ∧ (∃ m', RS (plL f l nf g V T).1 f l nf m' c) ∧ TO l (plL f l nf g V T).2 ∧ Fr V (plL f l nf g V T).1 := by
  intro g
  induction g with
  | zero =>
    intro m V T hR hO hg
    have := hR.2.2.2.2.1
    exfalso
    split at hg <;> omega
  | succ g ih =>
    intro m V T hR hO hg
    have hR0 := hR
    obtain ⟨hT, hnf, h5f, hnp, h5, hc, h6⟩ := hR
    have hm : mm_un (V.1 313 1) = m := by rw [hnp]; exact i_un (by omega)
    by_cases h0 : er T = 0
    · rw [if_pos h0] at hg
      have EX := e_nextT (S := S) (V := V) (a := T.1) (b := T.2.1) (w := T.2.2.1) (e := er T) (ea := T.2.2.2.2) hM hT (by have := to_600 hO hT.2.1; omega)
      have hOx := to_nx (f := f) hO
      by_cases h1 : byt f l (sk f l T.1) = -1
      · have hL : plL f l nf (g + 1) V T = (V, enF f l (nxP f l T)) := by
          rw [plL.eq_2, if_pos h0, if_pos h1]
        rw [hL]
        refine ⟨?_, ⟨m, hR0⟩, to_en hOx, Fr.rfl' V⟩
        have E150 := l_end (S := S) (V := V) (T := nxP f l T) hM hT hOx (y := some (.int 0))
        refine wp_aload_n k234_68 rfl rfl ?_
        refine wp_getI k234_69 (by decide) hM.o rfl (T.2.2.2.1) rfl ?_
        refine wp_if_ne_F k234_72 h0 ?_
        refine wp_iload_n k234_75 rfl rfl ?_
        refine wp_if_ne_F k234_76 (by decide) ?_
        refine wp_aload_n k234_79 rfl rfl ?_
        refine wp_cv (st2 := []) k234_80 EX (by decide) rfl rfl rfl rfl (by decide) hM.o (by decide) ?_
        refine wp_iconst (-1) k234_83 (by decide) ?_
        refine wp_if_icmp_eq_T k234_84 h1 ?_
        exact E150
      · obtain ⟨X, hX⟩ : ∃ X, sgP f l 59 (nxP f l T) = X := ⟨_, rfl⟩
        have hOX : TO l X := by rw [← hX]; exact to_sg (by decide) hOx
        have EG := e_sign (S := S) (V := V) (T := nxP f l T) hM hT (by have := to_600 hOx hT.2.1; omega) (c := 59)
        rw [hX] at EG
        have ES := e_sees (S := S) (V := V) (a := X.1) (b := X.2.1) (w := X.2.2.1) (e := er X) (ea := X.2.2.2.2) hM hT (by have := to_600 hOX hT.2.1; omega) XS26
        by_cases h2 : seB f l X 6 160765180144170663739740739734469041235173086068848 = true
        · have hL : plL f l nf (g + 1) V T = plL f l nf g (pnF f l nf m V (nxP f l X)).1 (pnF f l nf m V (nxP f l X)).2 := by
            rw [plL.eq_2, if_pos h0, if_neg h1, hX, if_pos h2, hm]
          rw [hL]
          have hO3 := to_nx (f := f) hOX
          have EP := e_personLine (S := S) (V := V) (T := nxP f l X) hM hT hnf h5f hnp h5 hO3 (tw_nx hOX)
          have hgo := fun h => pnF_go (f := f) (l := l) (nf := nf) (m := m) (V := V) (T := nxP f l X) h
          obtain ⟨A, hA⟩ : ∃ A, pnF f l nf m V (nxP f l X) = A := ⟨_, rfl⟩
          rw [hA] at EP hgo ⊢
          obtain ⟨EP, l1, ⟨m1, l2, l3⟩, l4, l5⟩ := EP
          have hF : Fr V A.1 := Fr.of313 l4
          have hR1 : RS A.1 f l nf m1 c := ⟨hF.tx hT, (l5 0 (by decide) (by decide)).trans hnf, h5f, l2, l3, (l5 5 (by decide) (by decide)).trans hc, h6⟩
          obtain ⟨i1, i2, i3, i4⟩ := ih m1 A.1 A.2 hR1 l1 (by
            split
            · rename_i z
              obtain ⟨z1, z2, _⟩ := hgo z
              have := i_inj (by omega) (by omega) (l2.symm.trans z1)
              omega
            · omega)
          refine ⟨?_, i2, i3, hF.tr i4⟩
          refine wp_aload_n k234_68 rfl rfl ?_
          refine wp_getI k234_69 (by decide) hM.o rfl (T.2.2.2.1) rfl ?_
          refine wp_if_ne_F k234_72 h0 ?_
          refine wp_iload_n k234_75 rfl rfl ?_
          refine wp_if_ne_F k234_76 (by decide) ?_
          refine wp_aload_n k234_79 rfl rfl ?_
          refine wp_cv (st2 := []) k234_80 EX (by decide) rfl rfl rfl rfl (by decide) hM.o (by decide) ?_
          refine wp_iconst (-1) k234_83 (by decide) ?_
          refine wp_if_icmp_eq_F k234_84 h1 ?_
          refine wp_aload_n k234_87 rfl rfl ?_
          refine wp_bipush 59 k234_88 (by decide) ?_
          refine wp_cvn (st2 := []) k234_90 EG (by decide) rfl rfl rfl rfl (by decide) hM.o (by decide) ?_
          refine wp_aload_n k234_93 rfl rfl ?_
          refine wp_ldc_wR k234_94 ?_
          refine wp_cv (st2 := []) k234_97 ES (by decide) rfl rfl rfl rfl (by decide) hM.o (by decide) ?_
          refine wp_if_eq_F k234_100 (bI_n0.mpr h2) ?_
          refine wp_aload_n k234_103 rfl rfl ?_
          refine wp_cvn (st2 := []) k234_104 EP (by decide) rfl rfl rfl rfl (by decide) hM.o (by decide) ?_
          refine wp_goto k234_107 ?_
          exact i1
        · have hn2 : seB f l X 6 160765180144170663739740739734469041235173086068848 = false := Bool.eq_false_iff.mpr h2
          have hO3 := to_nx (f := f) hOX
          have ES2 := e_sees (S := S) (V := V) (a := (nxP f l X).1) (b := (nxP f l X).2.1) (w := (nxP f l X).2.2.1) (e := er (nxP f l X)) (ea := (nxP f l X).2.2.2.2) hM hT (by have := to_600 hO3 hT.2.1; omega) XS28
          obtain ⟨Z, hZ⟩ : ∃ Z, reP f l X = Z := ⟨_, rfl⟩
          have hOZ : TO l Z := by rw [← hZ]; exact to_re hOX
          have hWZ : TW l Z := by rw [← hZ]; exact tw_re hOX
          have EM := e_must (S := S) (sh := sh) (V := V) (a := (nxP f l (nxP f l X)).1) (b := (nxP f l (nxP f l X)).2.1) (w := (nxP f l (nxP f l X)).2.2.1) (e := er (nxP f l (nxP f l X))) (ea := (nxP f l (nxP f l X)).2.2.2.2) hM (x := bI (seB f l (nxP f l X) 4 8556641553329882635686364840050)) (c := 1)
          have EM : EV S 2 204 [.ref 312, .int (bI (seB f l (nxP f l X) 4 8556641553329882635686364840050)), .int 1] (hH sh (pp V (nxP f l (nxP f l X)))) (.inl none) (hH sh (pp V Z)) := by
            rw [← hZ]
            exact EM
          by_cases h3 : er Z = 0
          · have hL : plL f l nf (g + 1) V T = ((rlF f l nf Z.2.1 (up V 313 4 (-1)) Z).1, enF f l (rlF f l nf Z.2.1 (up V 313 4 (-1)) Z).2) := by
              rw [plL.eq_2, if_pos h0, if_neg h1, hX, if_neg h2, hZ, if_pos h3]
            rw [hL]
            have hu : (up V 313 4 (-1)).1 313 0 = Int32.ofNat nf := by rw [up_ne _ _ (Or.inr (by decide))]; exact hnf
            have EP := e_realLine (S := S) (V := up V 313 4 (-1)) (T := Z) hM hT hu h5f (b := Z.2.1) (to_goW hWZ h3)
            have hfr : ∀ a k, a ≠ 313 ∨ k ≠ 4 → (rlF f l nf Z.2.1 (up V 313 4 (-1)) Z).1.1 a k = V.1 a k := fun a k h => (rlF_fr h).trans (up_ne _ _ h)
            obtain ⟨A, hA⟩ : ∃ A, rlF f l nf Z.2.1 (up V 313 4 (-1)) Z = A := ⟨_, rfl⟩
            rw [hA] at EP hfr ⊢
            have hF : Fr V A.1 := Fr.of313 fun a k h => hfr a k (Or.inl h)
            have E150 := l_end (S := S) (V := A.1) (T := A.2) hM (hF.tx hT) EP.2 (y := some (.int 1))
            refine ⟨?_, ⟨m, hF.tx hT, (hfr 313 0 (Or.inr (by decide))).trans hnf, h5f, (hfr 313 1 (Or.inr (by decide))).trans hnp, h5, (hfr 313 5 (Or.inr (by decide))).trans hc, h6⟩, to_en EP.2, hF⟩
            by_cases h4 : er A.2 = 0
            · skip
              refine wp_aload_n k234_68 rfl rfl ?_
              refine wp_getI k234_69 (by decide) hM.o rfl (T.2.2.2.1) rfl ?_
              refine wp_if_ne_F k234_72 h0 ?_
              refine wp_iload_n k234_75 rfl rfl ?_
              refine wp_if_ne_F k234_76 (by decide) ?_
              refine wp_aload_n k234_79 rfl rfl ?_
              refine wp_cv (st2 := []) k234_80 EX (by decide) rfl rfl rfl rfl (by decide) hM.o (by decide) ?_
              refine wp_iconst (-1) k234_83 (by decide) ?_
              refine wp_if_icmp_eq_F k234_84 h1 ?_
              refine wp_aload_n k234_87 rfl rfl ?_
              refine wp_bipush 59 k234_88 (by decide) ?_
              refine wp_cvn (st2 := []) k234_90 EG (by decide) rfl rfl rfl rfl (by decide) hM.o (by decide) ?_
              refine wp_aload_n k234_93 rfl rfl ?_
              refine wp_ldc_wR k234_94 ?_
              refine wp_cv (st2 := []) k234_97 ES (by decide) rfl rfl rfl rfl (by decide) hM.o (by decide) ?_
              refine wp_if_eq_T k234_100 (bI_0.mpr hn2) ?_
              refine wp_aload_n k234_110 rfl rfl ?_
              refine wp_aload_n k234_111 rfl rfl ?_
              refine wp_ldc_wR k234_112 ?_
              refine wp_cv (st2 := [_]) k234_115 ES2 (by decide) rfl rfl rfl rfl (by decide) hM.o (by decide) ?_
              refine wp_iconst 1 k234_118 (by decide) ?_
              refine wp_cvn (st2 := []) k234_119 EM (by decide) rfl rfl rfl rfl (by decide) hM.o (by decide) ?_
              refine wp_iconst 1 k234_122 (by decide) ?_
              refine wp_istore_n (L1 := [_, _]) k234_123 rfl rfl ?_
              refine wp_aload_n k234_124 rfl rfl ?_
              refine wp_getI k234_125 (by decide) hM.o rfl (Z.2.2.2.1) rfl ?_
              refine wp_if_eq_T k234_128 h3 ?_
              refine wp_aload_n k234_132 rfl rfl ?_
              refine wp_getR k234_133 (by decide) hM.o rfl ?_
              refine wp_iconst 4 k234_136 (by decide) ?_
              refine wp_iconst (-1) k234_137 (by decide) ?_
              refine wp_iastoreP k234_138 (by decide) (hM.a313) (by decide) 4 (by decide) (by decide) ?_
              refine wp_aload_n k234_139 rfl rfl ?_
              refine wp_aload_n k234_140 rfl rfl ?_
              refine wp_getI k234_141 (by decide) hM.o rfl (Int32.ofNat (Z.2.1)) rfl ?_
              refine wp_cvn (st2 := []) k234_144 EP.1 (by decide) rfl rfl rfl rfl (by decide) hM.o (by decide) ?_
              refine wp_goto k234_147 ?_
              refine wp_aload_n k234_68 rfl rfl ?_
              refine wp_getI k234_69 (by decide) hM.o rfl (A.2.2.2.2.1) rfl ?_
              refine wp_if_ne_F k234_72 h4 ?_
              refine wp_iload_n k234_75 rfl rfl ?_
              refine wp_if_ne_T k234_76 (by decide) ?_
              exact E150
            · skip
              refine wp_aload_n k234_68 rfl rfl ?_
              refine wp_getI k234_69 (by decide) hM.o rfl (T.2.2.2.1) rfl ?_
              refine wp_if_ne_F k234_72 h0 ?_
              refine wp_iload_n k234_75 rfl rfl ?_
              refine wp_if_ne_F k234_76 (by decide) ?_
              refine wp_aload_n k234_79 rfl rfl ?_
              refine wp_cv (st2 := []) k234_80 EX (by decide) rfl rfl rfl rfl (by decide) hM.o (by decide) ?_
              refine wp_iconst (-1) k234_83 (by decide) ?_
              refine wp_if_icmp_eq_F k234_84 h1 ?_
              refine wp_aload_n k234_87 rfl rfl ?_
              refine wp_bipush 59 k234_88 (by decide) ?_
              refine wp_cvn (st2 := []) k234_90 EG (by decide) rfl rfl rfl rfl (by decide) hM.o (by decide) ?_
              refine wp_aload_n k234_93 rfl rfl ?_
              refine wp_ldc_wR k234_94 ?_
              refine wp_cv (st2 := []) k234_97 ES (by decide) rfl rfl rfl rfl (by decide) hM.o (by decide) ?_
              refine wp_if_eq_T k234_100 (bI_0.mpr hn2) ?_
              refine wp_aload_n k234_110 rfl rfl ?_
              refine wp_aload_n k234_111 rfl rfl ?_
              refine wp_ldc_wR k234_112 ?_
              refine wp_cv (st2 := [_]) k234_115 ES2 (by decide) rfl rfl rfl rfl (by decide) hM.o (by decide) ?_
              refine wp_iconst 1 k234_118 (by decide) ?_
              refine wp_cvn (st2 := []) k234_119 EM (by decide) rfl rfl rfl rfl (by decide) hM.o (by decide) ?_
              refine wp_iconst 1 k234_122 (by decide) ?_
              refine wp_istore_n (L1 := [_, _]) k234_123 rfl rfl ?_
              refine wp_aload_n k234_124 rfl rfl ?_
              refine wp_getI k234_125 (by decide) hM.o rfl (Z.2.2.2.1) rfl ?_
              refine wp_if_eq_T k234_128 h3 ?_
              refine wp_aload_n k234_132 rfl rfl ?_
              refine wp_getR k234_133 (by decide) hM.o rfl ?_
              refine wp_iconst 4 k234_136 (by decide) ?_
              refine wp_iconst (-1) k234_137 (by decide) ?_
              refine wp_iastoreP k234_138 (by decide) (hM.a313) (by decide) 4 (by decide) (by decide) ?_
              refine wp_aload_n k234_139 rfl rfl ?_
              refine wp_aload_n k234_140 rfl rfl ?_
              refine wp_getI k234_141 (by decide) hM.o rfl (Int32.ofNat (Z.2.1)) rfl ?_
              refine wp_cvn (st2 := []) k234_144 EP.1 (by decide) rfl rfl rfl rfl (by decide) hM.o (by decide) ?_
              refine wp_goto k234_147 ?_
              refine wp_aload_n k234_68 rfl rfl ?_
              refine wp_getI k234_69 (by decide) hM.o rfl (A.2.2.2.2.1) rfl ?_
              refine wp_if_ne_T k234_72 h4 ?_
              exact E150
          · have hL : plL f l nf (g + 1) V T = (V, Z) := by
              rw [plL.eq_2, if_pos h0, if_neg h1, hX, if_neg h2, hZ, if_neg h3]
            rw [hL]
            refine ⟨?_, ⟨m, hR0⟩, hOZ, Fr.rfl' V⟩
            refine wp_aload_n k234_68 rfl rfl ?_
            refine wp_getI k234_69 (by decide) hM.o rfl (T.2.2.2.1) rfl ?_
            refine wp_if_ne_F k234_72 h0 ?_
            refine wp_iload_n k234_75 rfl rfl ?_
            refine wp_if_ne_F k234_76 (by decide) ?_
            refine wp_aload_n k234_79 rfl rfl ?_
            refine wp_cv (st2 := []) k234_80 EX (by decide) rfl rfl rfl rfl (by decide) hM.o (by decide) ?_
            refine wp_iconst (-1) k234_83 (by decide) ?_
            refine wp_if_icmp_eq_F k234_84 h1 ?_
            refine wp_aload_n k234_87 rfl rfl ?_
            refine wp_bipush 59 k234_88 (by decide) ?_
            refine wp_cvn (st2 := []) k234_90 EG (by decide) rfl rfl rfl rfl (by decide) hM.o (by decide) ?_
            refine wp_aload_n k234_93 rfl rfl ?_
            refine wp_ldc_wR k234_94 ?_
            refine wp_cv (st2 := []) k234_97 ES (by decide) rfl rfl rfl rfl (by decide) hM.o (by decide) ?_
            refine wp_if_eq_T k234_100 (bI_0.mpr hn2) ?_
            refine wp_aload_n k234_110 rfl rfl ?_
            refine wp_aload_n k234_111 rfl rfl ?_
            refine wp_ldc_wR k234_112 ?_
            refine wp_cv (st2 := [_]) k234_115 ES2 (by decide) rfl rfl rfl rfl (by decide) hM.o (by decide) ?_
            refine wp_iconst 1 k234_118 (by decide) ?_
            refine wp_cvn (st2 := []) k234_119 EM (by decide) rfl rfl rfl rfl (by decide) hM.o (by decide) ?_
            refine wp_iconst 1 k234_122 (by decide) ?_
            refine wp_istore_n (L1 := [_, _]) k234_123 rfl rfl ?_
            refine wp_aload_n k234_124 rfl rfl ?_
            refine wp_getI k234_125 (by decide) hM.o rfl (Z.2.2.2.1) rfl ?_
            refine wp_if_eq_F k234_128 h3 ?_
            exact wp_retn k234_131 rfl rfl
    · have hL : plL f l nf (g + 1) V T = (V, enF f l T) := by
        rw [plL.eq_2, if_neg h0]
      rw [hL]
      refine ⟨?_, ⟨m, hR0⟩, to_en hO, Fr.rfl' V⟩
      have E150 := l_end (S := S) (V := V) (T := T) hM hT hO (y := some (.int 0))
      refine wp_aload_n k234_68 rfl rfl ?_
      refine wp_getI k234_69 (by decide) hM.o rfl (T.2.2.2.1) rfl ?_
      refine wp_if_ne_T k234_72 h0 ?_
      exact E150
def peP (f : Nat → Int32) (l : Nat) (T : hP) : hP := muP (bI (seB f l T 6 160765180144170663739740739734469041235173086068848)) 1 (nxP f l T)
def rsF (f : Nat → Int32) (l nf : Nat) (V : hV) (T : hP) : hV × hP := if er (lwL f l nf 0 9 V T).2 = 0 then (if er (peP f l (lwL f l nf 0 9 V T).2) = 0 then plL f l nf 8 (pnF f l nf 0 (lwL f l nf 0 9 V T).1 (peP f l (lwL f l nf 0 9 V T).2)).1 (pnF f l nf 0 (lwL f l nf 0 9 V T).1 (peP f l (lwL f l nf 0 9 V T).2)).2 else plL f l nf 8 (lwL f l nf 0 9 V T).1 (peP f l (lwL f l nf 0 9 V T).2)) else lwL f l nf 0 9 V T
theorem e_readsLines {S : ww_S} {sh : List mm_C} {V : hV} {T : hP} (hM : MS sh) {f : Nat → Int32} {l nf : Nat} (hR : RS V f l nf 0 0) (hO : TO l T) : EV S 191 234 [.ref 312] (hH sh (pp V T)) (.inl none) (hH sh (pp (rsF f l nf V T).1 (rsF f l nf V T).2)) ∧ (∃ m c, RS (rsF f l nf V T).1 f l nf m c) ∧ TO l (rsF f l nf V T).2 ∧ Fr V (rsF f l nf V T).1 := by
  obtain ⟨go, ⟨c, hR1⟩, hO1, hF1⟩ := l_laws (S := S) hM (y := none) 9 0 V T hR hO (by split <;> omega)
  unfold rsF
  obtain ⟨B, hB⟩ : ∃ B, lwL f l nf 0 9 V T = B := ⟨_, rfl⟩
  rw [hB] at go hR1 hO1 hF1 ⊢
  have hR0 := hR1
  obtain ⟨hT, hnf, h5f, hnp, h5, hc, h6⟩ := hR1
  by_cases h0 : er B.2 = 0
  · rw [if_pos h0]
    have ES := e_sees (S := S) (V := B.1) (a := B.2.1) (b := B.2.2.1) (w := B.2.2.2.1) (e := er B.2) (ea := B.2.2.2.2.2) hM hT (by have := to_600 hO1 hT.2.1; omega) XS26
    have EM := e_must (S := S) (sh := sh) (V := B.1) (a := (nxP f l B.2).1) (b := (nxP f l B.2).2.1) (w := (nxP f l B.2).2.2.1) (e := er (nxP f l B.2)) (ea := (nxP f l B.2).2.2.2.2) hM (x := bI (seB f l B.2 6 160765180144170663739740739734469041235173086068848)) (c := 1)
    obtain ⟨Z, hZ⟩ : ∃ Z, peP f l B.2 = Z := ⟨_, rfl⟩
    have EM : EV S 2 204 [.ref 312, .int (bI (seB f l B.2 6 160765180144170663739740739734469041235173086068848)), .int 1] (hH sh (pp B.1 (nxP f l B.2))) (.inl none) (hH sh (pp B.1 Z)) := by
      rw [← hZ]
      exact EM
    have hOZ : TO l Z := by rw [← hZ]; exact to_mu (by decide) (to_nx hO1)
    have hWZ : TW l Z := by rw [← hZ]; exact tw_mu (by decide) (tw_nx hO1)
    rw [hZ]
    by_cases h1 : er Z = 0
    · rw [if_pos h1]
      have EP := e_personLine (S := S) (V := B.1) (T := Z) hM hT hnf h5f hnp h5 hOZ hWZ
      obtain ⟨A, hA⟩ : ∃ A, pnF f l nf 0 B.1 Z = A := ⟨_, rfl⟩
      rw [hA] at EP ⊢
      obtain ⟨EP, l1, ⟨m1, l2, l3⟩, l4, l5⟩ := EP
      have hF : Fr B.1 A.1 := Fr.of313 l4
      have hR2 : RS A.1 f l nf m1 c := ⟨hF.tx hT, (l5 0 (by decide) (by decide)).trans hnf, h5f, l2, l3, (l5 5 (by decide) (by decide)).trans hc, h6⟩
      obtain ⟨i1, ⟨m2, i2⟩, i3, i4⟩ := l_pers (S := S) hM 8 m1 A.1 A.2 hR2 l1 (by split <;> omega)
      refine ⟨ev_qe P234 rfl (go ?_), ⟨m2, c, i2⟩, i3, hF1.tr (hF.tr i4)⟩
      refine wp_aload_n k234_35 rfl rfl ?_
      refine wp_getI k234_36 (by decide) hM.o rfl (B.2.2.2.2.1) rfl ?_
      refine wp_if_eq_T k234_39 h0 ?_
      refine wp_aload_n k234_43 rfl rfl ?_
      refine wp_aload_n k234_44 rfl rfl ?_
      refine wp_ldc_wR k234_45 ?_
      refine wp_cv (st2 := [_]) k234_48 ES (by decide) rfl rfl rfl rfl (by decide) hM.o (by decide) ?_
      refine wp_iconst 1 k234_51 (by decide) ?_
      refine wp_cvn (st2 := []) k234_52 EM (by decide) rfl rfl rfl rfl (by decide) hM.o (by decide) ?_
      refine wp_aload_n k234_55 rfl rfl ?_
      refine wp_getI k234_56 (by decide) hM.o rfl (Z.2.2.2.1) rfl ?_
      refine wp_if_ne_F k234_59 h1 ?_
      refine wp_aload_n k234_62 rfl rfl ?_
      refine wp_cvn (st2 := []) k234_63 EP (by decide) rfl rfl rfl rfl (by decide) hM.o (by decide) ?_
      refine wp_iconst 0 k234_66 (by decide) ?_
      refine wp_istore_n (L1 := [_, _]) k234_67 rfl rfl ?_
      exact i1
    · rw [if_neg h1]
      obtain ⟨i1, ⟨m2, i2⟩, i3, i4⟩ := l_pers (S := S) hM 8 0 B.1 Z hR0 hOZ (by split <;> omega)
      refine ⟨ev_qe P234 rfl (go ?_), ⟨m2, c, i2⟩, i3, hF1.tr i4⟩
      refine wp_aload_n k234_35 rfl rfl ?_
      refine wp_getI k234_36 (by decide) hM.o rfl (B.2.2.2.2.1) rfl ?_
      refine wp_if_eq_T k234_39 h0 ?_
      refine wp_aload_n k234_43 rfl rfl ?_
      refine wp_aload_n k234_44 rfl rfl ?_
      refine wp_ldc_wR k234_45 ?_
      refine wp_cv (st2 := [_]) k234_48 ES (by decide) rfl rfl rfl rfl (by decide) hM.o (by decide) ?_
      refine wp_iconst 1 k234_51 (by decide) ?_
      refine wp_cvn (st2 := []) k234_52 EM (by decide) rfl rfl rfl rfl (by decide) hM.o (by decide) ?_
      refine wp_aload_n k234_55 rfl rfl ?_
      refine wp_getI k234_56 (by decide) hM.o rfl (Z.2.2.2.1) rfl ?_
      refine wp_if_ne_T k234_59 h1 ?_
      refine wp_iconst 0 k234_66 (by decide) ?_
      refine wp_istore_n (L1 := [_, _]) k234_67 rfl rfl ?_
      exact i1
  · rw [if_neg h0]
    refine ⟨ev_qe P234 rfl (go ?_), ⟨0, c, hR0⟩, hO1, hF1⟩
    refine wp_aload_n k234_35 rfl rfl ?_
    refine wp_getI k234_36 (by decide) hM.o rfl (B.2.2.2.2.1) rfl ?_
    refine wp_if_eq_F k234_39 h0 ?_
    exact wp_retn k234_42 rfl rfl
end M21
