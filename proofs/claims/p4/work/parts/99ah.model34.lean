section M34
/-! ===== the reference: a question is asked ===== -/
def akS (W : hV) (i : Nat) : hV := ovr W 313 (fun j => if 320 ≤ j ∧ j < 320 + i then some (W.1 320 (4820 + (j - 320))) else none)
def akT (V : hV) : hP := (0, 0, (selfP V).2.2.1, 0, -1)
def akQ (f : Nat → Int32) (l np nf : Nat) (V : hV) : hQ := rfQ (V.1 313) f l (241 * 20) false np nf (V.1 320) (akT V)
def akE (f : Nat → Int32) (l : Nat) (V : hV) (q : hQ) : hV := rtE (fmV (fxV V (241 * 20) false) q.1 q.2.1 q.2.2.1) (enF f l q.2.2.2)
def akF (f : Nat → Int32) (l np nf pm : Nat) (V : hV) : Int32 × hV := if er (enF f l (akQ f l np nf V).2.2.2) = 0 then ((akS (keV (akE f l V (akQ f l np nf V)) pm) 241).1 313 320, akS (keV (akE f l V (akQ f l np nf V)) pm) 241) else (0, akE f l V (akQ f l np nf V))
theorem l_ask {S : ww_S} {sh : List mm_C} {W : hV} (hM : MS sh) : ∀ m i : Nat, m + i = 241 → WP S 189 mm_m255 59 [some (.ref 312), some (.int (Int32.ofNat i))] [] (hH sh (akS W i)) (qe (.inl (some (.int ((akS W 241).1 313 320)))) (hH sh (akS W 241))) := by
  intro m
  induction m with
  | zero =>
    intro i hi
    have hi : i = 241 := by omega
    subst hi
    refine wp_iload_n k255_59 rfl rfl ?_
    refine wp_sipush 241 k255_60 (by decide) ?_
    refine wp_if_icmp_ge_T k255_63 (i_nlt (k := 241) (n := 241) (by decide) (by decide)) ?_
    refine wp_aload_n k255_92 rfl rfl ?_
    refine wp_getR k255_93 (by decide) hM.o rfl ?_
    refine wp_sipush 320 k255_96 (by decide) ?_
    refine wp_iaload k255_99 (by decide) (hM.a313) (by decide) 320 (by decide) _ rfl ?_
    exact wp_reti k255_100 rfl rfl rfl
  | succ m ih =>
    intro i hi
    have hv : (akS W i).1 320 (4820 + i) = W.1 320 (4820 + i) := ovr_ne W _ (by decide) _
    have hn : up (akS W i) 313 (320 + i) (W.1 320 (4820 + i)) = akS W (i + 1) := by
      unfold akS
      rw [ovr_up]
      congr 1
      funext j
      by_cases e : j = 320 + i
      · rw [if_pos e, if_pos (by omega), show j - 320 = i by omega]
      · rw [if_neg e]
        by_cases e2 : 320 ≤ j ∧ j < 320 + i
        · rw [if_pos e2, if_pos (by omega)]
        · rw [if_neg e2, if_neg (by omega)]
    refine wp_iload_n k255_59 rfl rfl ?_
    refine wp_sipush 241 k255_60 (by decide) ?_
    refine wp_if_icmp_ge_F k255_63 (i_lt (n := 241) (by omega) (by decide)) ?_
    refine wp_aload_n k255_66 rfl rfl ?_
    refine wp_getR k255_67 (by decide) hM.o rfl ?_
    refine wp_sipush 320 k255_70 (by decide) ?_
    refine wp_iload_n k255_73 rfl rfl ?_
    refine wp_iadd k255_74 ?_
    refine wp_cast (show (320 : Int32) + Int32.ofNat (i) = Int32.ofNat (320 + i) from (Int32.ofNat_add 320 _).symm) ?_
    refine wp_aload_n k255_75 rfl rfl ?_
    refine wp_getR k255_76 (by decide) hM.o rfl ?_
    refine wp_sipush 4820 k255_79 (by decide) ?_
    refine wp_iload_n k255_82 rfl rfl ?_
    refine wp_iadd k255_83 ?_
    refine wp_cast (show (4820 : Int32) + Int32.ofNat (i) = Int32.ofNat (4820 + i) from (Int32.ofNat_add 4820 _).symm) ?_
    refine wp_iaload k255_84 (by decide) (hM.a320) (i_inO (by omega) (by decide)) (4820 + i) (i_un (by omega)) (W.1 320 (4820 + i)) hv ?_
    refine wp_iastore k255_85 (by decide) (hM.a313) (i_inO (by omega) (by decide)) (320 + i) (i_un (by omega)) ?_
    refine wp_iinc (L1 := [_, _]) 1 k255_86 rfl (by decide) rfl ?_
    refine wp_goto k255_89 ?_
    exact wp_eq (ih (i + 1) (by omega)) (by rw [i_succ]) rfl (congrArg (hH sh) hn)
theorem e_ask {S : ww_S} {sh : List mm_C} {V : hV} (hM : MS sh) {f : Nat → Int32} {l : Nat} (hT : TX V f l) {np nf : Nat} (hnp : V.1 313 1 = Int32.ofNat np) (h5 : np ≤ 5) (hnf : V.1 313 0 = Int32.ofNat nf) (h5f : nf ≤ 5) {pm : Nat} (hp : V.1 312 5 = Int32.ofNat pm) (h8 : pm ≤ 8) : EV S 190 255 [.ref 312] (hH sh V) (.inl (some (.int (akF f l np nf pm V).1))) (hH sh (akF f l np nf pm V).2) := by
  have ES := e_starts (S := S) (V := V) (T := selfP V) hM
  have EF := e_readsFormula (S := S) (V := V) (T := akT V) hM hT ⟨Nat.zero_le _, fun _ => Nat.zero_le _⟩ rfl hnp h5 hnf h5f (j := 20) (by decide) (b := false)
  unfold akF
  obtain ⟨q, hq⟩ : ∃ q, akQ f l np nf V = q := ⟨_, rfl⟩
  rw [show rfQ (V.1 313) f l (241 * 20) false np nf (V.1 320) (akT V) = q from hq] at EF
  rw [hq]
  obtain ⟨EF, e1, e2, _⟩ := EF
  obtain ⟨U, hU⟩ : ∃ U, fmV (fxV V (241 * 20) false) q.1 q.2.1 q.2.2.1 = U := ⟨_, rfl⟩
  have hTU : TX U f l := by rw [← hU]; exact hT
  have hpU : U.1 312 5 = Int32.ofNat pm := by rw [← hU]; exact hp
  obtain ⟨X, hX⟩ : ∃ X, enF f l q.2.2.2 = X := ⟨_, rfl⟩
  have EE := e_ends (S := S) (V := U) (T := X) hM
  have EP := e_passesP (S := S) (sh := sh) (V := up (up (up U 312 10 0) 312 16 (er X)) 312 17 X.2.2.2.2) (T := X) hM (b := decide (er X = 0))
  obtain ⟨W, hW⟩ : ∃ W, akE f l V q = W := ⟨_, rfl⟩
  have hW2 : pp (up (up (up (up U 312 10 0) 312 16 (er X)) 312 17 X.2.2.2.2) 312 6 (bI (!decide (er X = 0)))) X = W := by
    rw [← hW]
    unfold akE
    rw [hU, hX]
    rfl
  rw [hW2] at EP
  rw [hW, hX]
  have hWp : W.1 312 5 = Int32.ofNat pm := by
    rw [← hW2]
    exact hpU
  rw [show fq (fxV V (241 * 20) false) q = pp U q.2.2.2 by rw [← hU]] at EF
  have EK := e_keeps (S := S) (V := W) hM hWp h8
  have EQ := e_nextT (S := S) (V := U) (a := q.2.2.2.1) (b := q.2.2.2.2.1) (w := q.2.2.2.2.2.1) (e := er q.2.2.2) (ea := q.2.2.2.2.2.2.2) hM hTU (by have := hT.2.1; omega)
  have E59 := l_ask (S := S) (sh := sh) (W := keV W pm) hM 241 0 rfl
  rw [show akS (keV W pm) 0 = keV W pm by unfold akS; rw [show (fun j => if 320 ≤ j ∧ j < 320 + 0 then some ((keV W pm).1 320 (4820 + (j - 320))) else none) = (fun _ : Nat => (none : Option Int32)) from funext fun j => if_neg (by omega)]; exact ovr_0 _ 313] at E59
  refine ev_qe P255 rfl ?_
  refine wp_eq ?_ rfl rfl (congrArg (hH sh) (pp_self V))
  have go : ∀ {Q}, WP S 189 mm_m255 36 [some (.ref 312), none] [] (hH sh (pp U X)) Q → WP S 189 mm_m255 0 [some (.ref 312), none] [] (hH sh (pp V (selfP V))) Q := by
    intro Q E
    rw [← hX] at E
    unfold enF at E
    by_cases h0 : er q.2.2.2 = 0
    · rw [if_pos h0] at E
      by_cases h1 : byt f l (sk f l q.2.2.2.1) = -1
      · rw [if_pos h1] at E
        refine wp_aload_n k255_0 rfl rfl ?_
        refine wp_cvn (st2 := []) k255_1 ES (by decide) rfl rfl rfl rfl (by decide) hM.o (by decide) ?_
        refine wp_aload_n k255_4 rfl rfl ?_
        refine wp_bipush 20 k255_5 (by decide) ?_
        refine wp_iconst 0 k255_7 (by decide) ?_
        refine wp_cvn (st2 := []) k255_8 EF (by decide) rfl rfl rfl rfl (by decide) hM.o (by decide) ?_
        refine wp_aload_n k255_11 rfl rfl ?_
        refine wp_getI k255_12 (by decide) hM.o rfl (q.2.2.2.2.2.2.1) rfl ?_
        refine wp_if_ne_F k255_15 h0 ?_
        refine wp_aload_n k255_18 rfl rfl ?_
        refine wp_aload_n k255_19 rfl rfl ?_
        refine wp_cv (st2 := [_]) k255_20 EQ (by decide) rfl rfl rfl rfl (by decide) hM.o (by decide) ?_
        refine wp_iconst (-1) k255_23 (by decide) ?_
        refine wp_if_icmp_ne_F k255_24 h1 ?_
        refine wp_iconst 1 k255_27 (by decide) ?_
        refine wp_goto k255_28 ?_
        refine wp_iconst 1 k255_32 (by decide) ?_
        refine wp_cvn (st2 := []) k255_33 (e_must hM) (by decide) rfl rfl rfl rfl (by decide) hM.o (by decide) ?_
        exact E
      · rw [if_neg h1] at E
        refine wp_aload_n k255_0 rfl rfl ?_
        refine wp_cvn (st2 := []) k255_1 ES (by decide) rfl rfl rfl rfl (by decide) hM.o (by decide) ?_
        refine wp_aload_n k255_4 rfl rfl ?_
        refine wp_bipush 20 k255_5 (by decide) ?_
        refine wp_iconst 0 k255_7 (by decide) ?_
        refine wp_cvn (st2 := []) k255_8 EF (by decide) rfl rfl rfl rfl (by decide) hM.o (by decide) ?_
        refine wp_aload_n k255_11 rfl rfl ?_
        refine wp_getI k255_12 (by decide) hM.o rfl (q.2.2.2.2.2.2.1) rfl ?_
        refine wp_if_ne_F k255_15 h0 ?_
        refine wp_aload_n k255_18 rfl rfl ?_
        refine wp_aload_n k255_19 rfl rfl ?_
        refine wp_cv (st2 := [_]) k255_20 EQ (by decide) rfl rfl rfl rfl (by decide) hM.o (by decide) ?_
        refine wp_iconst (-1) k255_23 (by decide) ?_
        refine wp_if_icmp_ne_T k255_24 h1 ?_
        refine wp_iconst 0 k255_31 (by decide) ?_
        refine wp_iconst 1 k255_32 (by decide) ?_
        refine wp_cvn (st2 := []) k255_33 (e_must hM) (by decide) rfl rfl rfl rfl (by decide) hM.o (by decide) ?_
        exact E
    · rw [if_neg h0] at E
      refine wp_aload_n k255_0 rfl rfl ?_
      refine wp_cvn (st2 := []) k255_1 ES (by decide) rfl rfl rfl rfl (by decide) hM.o (by decide) ?_
      refine wp_aload_n k255_4 rfl rfl ?_
      refine wp_bipush 20 k255_5 (by decide) ?_
      refine wp_iconst 0 k255_7 (by decide) ?_
      refine wp_cvn (st2 := []) k255_8 EF (by decide) rfl rfl rfl rfl (by decide) hM.o (by decide) ?_
      refine wp_aload_n k255_11 rfl rfl ?_
      refine wp_getI k255_12 (by decide) hM.o rfl (q.2.2.2.2.2.2.1) rfl ?_
      refine wp_if_ne_T k255_15 h0 ?_
      exact E
  refine go ?_
  by_cases h0 : er X = 0
  · rw [if_pos h0]
    refine wp_aload_n k255_36 rfl rfl ?_
    refine wp_aload_n k255_37 rfl rfl ?_
    refine wp_cv (st2 := [_]) k255_38 EE (by decide) rfl rfl rfl rfl (by decide) hM.o (by decide) ?_
    refine wp_cv (st2 := []) k255_41 EP (by decide) rfl rfl rfl rfl (by decide) hM.o (by decide) ?_
    refine wp_if_ne_T k255_44 (bI_n0.mpr (decide_eq_true h0)) ?_
    refine wp_aload_n k255_49 rfl rfl ?_
    refine wp_aload_n k255_50 rfl rfl ?_
    refine wp_getR k255_51 (by decide) hM.o rfl ?_
    refine wp_cvn (st2 := []) k255_54 EK (by decide) rfl rfl rfl rfl (by decide) hM.o (by decide) ?_
    refine wp_iconst 0 k255_57 (by decide) ?_
    refine wp_istore_n (L1 := [_, _]) k255_58 rfl rfl ?_
    exact E59
  · rw [if_neg h0]
    refine wp_aload_n k255_36 rfl rfl ?_
    refine wp_aload_n k255_37 rfl rfl ?_
    refine wp_cv (st2 := [_]) k255_38 EE (by decide) rfl rfl rfl rfl (by decide) hM.o (by decide) ?_
    refine wp_cv (st2 := []) k255_41 EP (by decide) rfl rfl rfl rfl (by decide) hM.o (by decide) ?_
    refine wp_if_ne_F k255_44 (bI_0.mpr (decide_eq_false h0)) ?_
    refine wp_iconst 0 k255_47 (by decide) ?_
    exact wp_reti k255_48 rfl (by dsimp only) (by dsimp only)
end M34
