section M22
/-! ===== the reference: readText ===== -/
theorem of_un (x : Int32) : Int32.ofNat (mm_un x) = x := by
  rw [mm_un_bv]
  show Int32.ofBitVec (BitVec.ofNat 32 x.toBitVec.toNat) = x
  rw [BitVec.ofNat_toNat, BitVec.setWidth_eq]
  rfl
def selfP (V : hV) : hP := (mm_un (V.1 312 11), mm_un (V.1 312 12), mm_un (V.1 312 13), V.1 312 14, V.1 312 15)
theorem pp_self (V : hV) : V = pp V (selfP V) := by
  refine hV_ext (fun a j => ?_) rfl
  by_cases h : a = 312
  · subst h
    show V.1 312 j = (ovr V 312 _).1 312 j
    by_cases h1 : j = 11
    · subst h1; rw [ovr_some V (if_pos rfl)]; exact (of_un _).symm
    · by_cases h2 : j = 12
      · subst h2; rw [ovr_some V (x := Int32.ofNat (mm_un (V.1 312 12))) rfl]; exact (of_un _).symm
      · by_cases h3 : j = 13
        · subst h3; rw [ovr_some V (x := Int32.ofNat (mm_un (V.1 312 13))) rfl]; exact (of_un _).symm
        · by_cases h4 : j = 14
          · subst h4; rw [ovr_some V (x := V.1 312 14) rfl]
          · by_cases h5 : j = 15
            · subst h5; rw [ovr_some V (x := V.1 312 15) rfl]
            · rw [ovr_none V (by rw [if_neg h1, if_neg h2, if_neg h3, if_neg h4, if_neg h5])]
  · exact (congrFun (pp_ne V _ h) j).symm
def zeV (V : hV) (n : Nat) : hV := ovr V 313 (fun j => if j < n then some 0 else none)
def rt0 (V : hV) : hV := zeV (cpV V 313 0 315 0 564) 564
def rtT (V : hV) : hP := (0, 0, (selfP (rt0 V)).2.2.1, 0, -1)
def rtA (f : Nat → Int32) (l : Nat) (V : hV) : hV × hP := flF f l 6 0 (rt0 V) (muP (bI (seB f l (rtT V) 5 39132472205098390151768970679218299994214)) 1 (taP f l (rtT V) 5 39132472205098390151768970679218299994214))
def rtA1 (f : Nat → Int32) (l : Nat) (V : hV) : hV := up (rtA f l V).1 313 4 (-1)
def rtB (f : Nat → Int32) (l : Nat) (V : hV) : hV × hP := if er (rtA f l V).2 = 0 then rsF f l (mm_un ((rtA1 f l V).1 313 0)) (rtA1 f l V) (rtA f l V).2 else (rtA1 f l V, (rtA f l V).2)
def rtE (V : hV) (T : hP) : hV := pp (up (up (up (up V 312 10 0) 312 16 (er T)) 312 17 T.2.2.2.2) 312 6 (bI (!decide (er T = 0)))) T
def rtG (W : hV) : hV := ovr W 313 (begH W (W.1 313 2) (mm_un (W.1 313 1)))
def rtH (W : hV) : hV := up (up (rtG W) 313 4 (if W.1 313 4 = -1 then lowest ((rtG W).1 313 2) else W.1 313 4)) 312 5 0
def rtF (f : Nat → Int32) (l : Nat) (V : hV) : Int32 × hV := if er (rtB f l V).2 = 0 then ((rtH (rtE (rtB f l V).1 (rtB f l V).2)).1 313 3, rtH (rtE (rtB f l V).1 (rtB f l V).2)) else (0, cpV (rtE (rtB f l V).1 (rtB f l V).2) 315 0 313 0 564)
theorem e_passesP {S : ww_S} {sh : List mm_C} {V : hV} {T : hP} (hM : MS sh) {b : Bool} : EV S 1 176 [.ref 312, .int (bI b)] (hH sh (pp V T)) (.inl (some (.int (bI b)))) (hH sh (pp (up V 312 6 (bI (!b))) T)) := by
  have h := e_passes (S := S) (V := pp V T) hM (b := b)
  rw [show up (pp V T) 312 6 (bI (!b)) = pp (up V 312 6 (bI (!b))) T from ps_up _ _ _ _ _ _ _ rfl] at h
  exact h
theorem l_zero {S : ww_S} {sh : List mm_C} {V : hV} (hM : MS sh) {Q} : ∀ m i : Nat, m + i = 564 → (WP S 194 mm_m236 35 [some (.ref 312), some (.int (Int32.ofNat 564))] [] (hH sh (zeV V 564)) Q) → WP S 194 mm_m236 15 [some (.ref 312), some (.int (Int32.ofNat i))] [] (hH sh (zeV V i)) Q := by
  intro m
  induction m with
  | zero =>
    intro i hi E
    have hi : i = 564 := by omega
    subst hi
    refine wp_iload_n k236_15 rfl rfl ?_
    refine wp_sipush 564 k236_16 (by decide) ?_
    refine wp_if_icmp_ge_T k236_19 (i_nlt (k := 564) (n := 564) (by decide) (by decide)) ?_
    exact E
  | succ m ih =>
    intro i hi E
    refine wp_iload_n k236_15 rfl rfl ?_
    refine wp_sipush 564 k236_16 (by decide) ?_
    refine wp_if_icmp_ge_F k236_19 (i_lt (n := 564) (by omega) (by decide)) ?_
    refine wp_aload_n k236_22 rfl rfl ?_
    refine wp_getR k236_23 (by decide) hM.o rfl ?_
    refine wp_iload_n k236_26 rfl rfl ?_
    refine wp_iconst 0 k236_27 (by decide) ?_
    refine wp_iastore k236_28 (by decide) (hM.a313) (i_inO (by omega) (by decide)) (i) (i_un (by omega)) ?_
    refine wp_iinc (L1 := [_, _]) 1 k236_29 rfl (by decide) rfl ?_
    refine wp_goto k236_32 ?_
    refine wp_eq (ih (i + 1) (by omega) E) (by rw [i_succ]) rfl (congrArg (hH sh) ?_)
    unfold zeV
    rw [ovr_up]
    congr 1
    funext j
    by_cases e : j = i
    · rw [if_pos e, if_pos (by omega)]
    · rw [if_neg e]
      by_cases e2 : j < i
      · rw [if_pos e2, if_pos (by omega)]
      · rw [if_neg e2, if_neg (by omega)]
theorem e_readText {S : ww_S} {sh : List mm_C} {V : hV} (hM : MS sh) {f : Nat → Int32} {l : Nat} (hT : TX V f l) : EV S 195 236 [.ref 312] (hH sh V) (.inl (some (.int (rtF f l V).1))) (hH sh (rtF f l V).2) := by
  have hT0 : TX (rt0 V) f l := hT
  have z0 : ∀ k, k < 564 → (rt0 V).1 313 k = 0 := fun k hk => ovr_some _ (if_pos hk)
  have hO0 : TO l (rtT V) := ⟨Nat.zero_le _, fun _ => Nat.zero_le _⟩
  have hf5 := fun (k : Nat) (k1 : k < 80) (k2 : k ≠ 0) (k3 : k ≠ 2) => flF_lo (f := f) (l := l) k1 k2 k3 6 0 (rt0 V) (muP (bI (seB f l (rtT V) 5 39132472205098390151768970679218299994214)) 1 (taP f l (rtT V) 5 39132472205098390151768970679218299994214))
  have hEF := e_factsLine (S := S) (V := rt0 V) (T := rtT V) hM hT0 (z0 0 (by decide)) hO0
  obtain ⟨A, hAA⟩ : ∃ A, flF f l 6 0 (rt0 V) (muP (bI (seB f l (rtT V) 5 39132472205098390151768970679218299994214)) 1 (taP f l (rtT V) 5 39132472205098390151768970679218299994214)) = A := ⟨_, rfl⟩
  rw [hAA] at hEF hf5
  have hAA2 : rtA f l V = A := by
    unfold rtA
    exact hAA
  obtain ⟨EF, f1, ⟨nf, f2, f3⟩, f4⟩ := hEF
  have hFA : Fr (rt0 V) (up A.1 313 4 (-1)) := Fr.of313 fun a k h => (up_ne _ _ (Or.inl h)).trans (f4 a k h)
  have hTA := hFA.tx hT0
  have hnf : (up A.1 313 4 (-1)).1 313 0 = Int32.ofNat nf := (up_ne _ _ (Or.inr (by decide))).trans f2
  have hun : mm_un ((up A.1 313 4 (-1)).1 313 0) = nf := by rw [hnf]; exact i_un (by omega)
  have hRS : RS (up A.1 313 4 (-1)) f l nf 0 0 := ⟨hTA, hnf, f3, (up_ne _ _ (Or.inr (by decide))).trans ((hf5 1 (by decide) (by decide) (by decide)).trans (z0 1 (by decide))), Nat.zero_le _, (up_ne _ _ (Or.inr (by decide))).trans ((hf5 5 (by decide) (by decide) (by decide)).trans (z0 5 (by decide))), Nat.zero_le _⟩
  have ER := e_readsLines (S := S) (T := A.2) hM hRS f1
  unfold rtF
  obtain ⟨B, hBB⟩ : ∃ B, rtB f l V = B := ⟨_, rfl⟩
  rw [hBB]
  have hB2 : (if er A.2 = 0 then rsF f l nf (up A.1 313 4 (-1)) A.2 else (up A.1 313 4 (-1), A.2)) = B := by
    rw [← hBB]
    unfold rtB rtA1
    rw [hAA2, hun]
  have hB : ∃ m c, RS B.1 f l nf m c := by
    rw [← hB2]
    by_cases h : er A.2 = 0
    · rw [if_pos h]
      exact ER.2.1
    · rw [if_neg h]
      exact ⟨0, 0, hRS⟩
  obtain ⟨np, c, hRB⟩ := hB
  have ES := e_starts (S := S) (V := rt0 V) (T := selfP (rt0 V)) hM
  have EE := e_ends (S := S) (V := B.1) (T := B.2) hM
  have EP := e_passesP (S := S) (sh := sh) (V := up (up (up B.1 312 10 0) 312 16 (er B.2)) 312 17 B.2.2.2.2.2) (T := B.2) hM (b := decide (er B.2 = 0))
  obtain ⟨W, hW⟩ : ∃ W, rtE B.1 B.2 = W := ⟨_, rfl⟩
  have hW2 : pp (up (up (up (up B.1 312 10 0) 312 16 (er B.2)) 312 17 B.2.2.2.2.2) 312 6 (bI (!decide (er B.2 = 0)))) B.2 = W := by
    rw [← hW]
    unfold rtE
    rfl
  rw [hW2] at EP
  rw [hW]
  have hWn : W.1 313 1 = Int32.ofNat np := by
    rw [← hW2, pp_ne _ _ (by decide), up_ne _ _ (Or.inl (by decide)), up_ne _ _ (Or.inl (by decide)), up_ne _ _ (Or.inl (by decide)), up_ne _ _ (Or.inl (by decide))]
    exact hRB.2.2.2.1
  have hWu : mm_un (W.1 313 1) = np := by rw [hWn]; exact i_un (by have := hRB.2.2.2.2.1; omega)
  refine ev_qe P236 rfl ?_
  have go : ∀ {Q}, WP S 194 mm_m236 61 [some (.ref 312), some (.int (Int32.ofNat 564))] [] (hH sh (pp B.1 B.2)) Q → WP S 194 mm_m236 35 [some (.ref 312), some (.int (Int32.ofNat 564))] [] (hH sh (rt0 V)) Q := by
    intro Q E61
    refine wp_eq ?_ rfl rfl (congrArg (hH sh) (pp_self (rt0 V)))
    by_cases h0 : er A.2 = 0
    · rw [if_pos h0] at hB2
      rw [hB2] at ER
      refine wp_aload_n k236_35 rfl rfl ?_
      refine wp_cvn (st2 := []) k236_36 ES (by decide) rfl rfl rfl rfl (by decide) hM.o (by decide) ?_
      refine wp_aload_n k236_39 rfl rfl ?_
      refine wp_cvn (st2 := []) k236_40 EF (by decide) rfl rfl rfl rfl (by decide) hM.o (by decide) ?_
      refine wp_aload_n k236_43 rfl rfl ?_
      refine wp_getR k236_44 (by decide) hM.o rfl ?_
      refine wp_iconst 4 k236_47 (by decide) ?_
      refine wp_iconst (-1) k236_48 (by decide) ?_
      refine wp_iastoreP k236_49 (by decide) (hM.a313) (by decide) 4 (by decide) (by decide) ?_
      refine wp_aload_n k236_50 rfl rfl ?_
      refine wp_getI k236_51 (by decide) hM.o rfl (A.2.2.2.2.1) rfl ?_
      refine wp_if_ne_F k236_54 h0 ?_
      refine wp_aload_n k236_57 rfl rfl ?_
      refine wp_cvn (st2 := []) k236_58 ER.1 (by decide) rfl rfl rfl rfl (by decide) hM.o (by decide) ?_
      exact E61
    · rw [if_neg h0] at hB2
      have h1 : B.1 = up A.1 313 4 (-1) := by rw [← hB2]
      have h2 : B.2 = A.2 := by rw [← hB2]
      rw [h1, h2] at E61
      refine wp_aload_n k236_35 rfl rfl ?_
      refine wp_cvn (st2 := []) k236_36 ES (by decide) rfl rfl rfl rfl (by decide) hM.o (by decide) ?_
      refine wp_aload_n k236_39 rfl rfl ?_
      refine wp_cvn (st2 := []) k236_40 EF (by decide) rfl rfl rfl rfl (by decide) hM.o (by decide) ?_
      refine wp_aload_n k236_43 rfl rfl ?_
      refine wp_getR k236_44 (by decide) hM.o rfl ?_
      refine wp_iconst 4 k236_47 (by decide) ?_
      refine wp_iconst (-1) k236_48 (by decide) ?_
      refine wp_iastoreP k236_49 (by decide) (hM.a313) (by decide) 4 (by decide) (by decide) ?_
      refine wp_aload_n k236_50 rfl rfl ?_
      refine wp_getI k236_51 (by decide) hM.o rfl (A.2.2.2.2.1) rfl ?_
      refine wp_if_ne_T k236_54 h0 ?_
      exact E61
  have go2 : ∀ {Q}, WP S 194 mm_m236 61 [some (.ref 312), some (.int (Int32.ofNat 564))] [] (hH sh (pp B.1 B.2)) Q → WP S 194 mm_m236 0 [some (.ref 312), none] [] (hH sh V) Q := by
    intro Q E61
    have E15 := l_zero (S := S) (V := cpV V 313 0 315 0 564) hM 564 0 rfl (go E61)
    have EC := e_copies (S := S) (sh := sh) (V := V) (f := 313) (t := 315) (a := 0) (b := 0) (by decide) (by decide) hM.a313 hM.a315 (by decide) (by decide) (by decide) (by decide) (by decide)
    rw [show zeV (cpV V 313 0 315 0 564) 0 = cpV V 313 0 315 0 564 from ovr_0 _ _] at E15
    refine wp_aload_n k236_0 rfl rfl ?_
    refine wp_getR k236_1 (by decide) hM.o rfl ?_
    refine wp_iconst 0 k236_4 (by decide) ?_
    refine wp_aload_n k236_5 rfl rfl ?_
    refine wp_getR k236_6 (by decide) hM.o rfl ?_
    refine wp_iconst 0 k236_9 (by decide) ?_
    refine wp_csn (st2 := []) k236_10 EC (by decide) rfl rfl rfl (by decide) ?_
    refine wp_iconst 0 k236_13 (by decide) ?_
    refine wp_istore_n (L1 := [_, _]) k236_14 rfl rfl ?_
    exact E15
  refine go2 ?_
  by_cases h0 : er B.2 = 0
  · rw [if_pos h0]
    have EB := e_begins (S := S) (V := W) hM hWn hRB.2.2.2.2.1 (left := W.1 313 2)
    rw [← hWu] at EB
    rw [show ovr W 313 (begH W (W.1 313 2) (mm_un (W.1 313 1))) = rtG W from rfl] at EB
    by_cases h1 : W.1 313 4 = -1
    · have hH9 : rtH W = up (up (rtG W) 313 4 (lowest ((rtG W).1 313 2))) 312 5 0 := by
        unfold rtH
        rw [if_pos h1]
      rw [hH9]
      refine wp_aload_n k236_61 rfl rfl ?_
      refine wp_aload_n k236_62 rfl rfl ?_
      refine wp_cv (st2 := [_]) k236_63 EE (by decide) rfl rfl rfl rfl (by decide) hM.o (by decide) ?_
      refine wp_cv (st2 := []) k236_66 EP (by decide) rfl rfl rfl rfl (by decide) hM.o (by decide) ?_
      refine wp_if_ne_T k236_69 (bI_n0.mpr (decide_eq_true h0)) ?_
      refine wp_aload_n k236_87 rfl rfl ?_
      refine wp_getR k236_88 (by decide) hM.o rfl ?_
      refine wp_iconst 4 k236_91 (by decide) ?_
      refine wp_iaload k236_92 (by decide) (hM.a313) (by decide) 4 (by decide) _ rfl ?_
      refine wp_istore_n (L1 := [_, _]) k236_93 rfl rfl ?_
      refine wp_aload_n k236_94 rfl rfl ?_
      refine wp_aload_n k236_95 rfl rfl ?_
      refine wp_getR k236_96 (by decide) hM.o rfl ?_
      refine wp_iconst 2 k236_99 (by decide) ?_
      refine wp_iaload k236_100 (by decide) (hM.a313) (by decide) 2 (by decide) _ rfl ?_
      refine wp_cvn (st2 := []) k236_101 EB (by decide) rfl rfl rfl rfl (by decide) hM.o (by decide) ?_
      refine wp_aload_n k236_104 rfl rfl ?_
      refine wp_getR k236_105 (by decide) hM.o rfl ?_
      refine wp_iconst 4 k236_108 (by decide) ?_
      refine wp_iload_n k236_109 rfl rfl ?_
      refine wp_iconst (-1) k236_110 (by decide) ?_
      refine wp_if_icmp_ne_F k236_111 h1 ?_
      refine wp_aload_n k236_114 rfl rfl ?_
      refine wp_getR k236_115 (by decide) hM.o rfl ?_
      refine wp_iconst 2 k236_118 (by decide) ?_
      refine wp_iaload k236_119 (by decide) (hM.a313) (by decide) 2 (by decide) _ rfl ?_
      refine wp_cs (st2 := [_, _]) k236_120 (e_lowest) (by decide) rfl rfl rfl (by decide) ?_
      refine wp_goto k236_123 ?_
      refine wp_iastore k236_127 (by decide) (hM.a313) (by decide) 4 (by decide) ?_
      refine wp_aload_n k236_128 rfl rfl ?_
      refine wp_iconst 0 k236_129 (by decide) ?_
      refine wp_putI k236_130 (by decide) hM.o rfl rfl rfl ?_
      refine wp_aload_n k236_133 rfl rfl ?_
      refine wp_getR k236_134 (by decide) hM.o rfl ?_
      refine wp_iconst 3 k236_137 (by decide) ?_
      refine wp_iaload k236_138 (by decide) (hM.a313) (by decide) 3 (by decide) _ rfl ?_
      exact wp_reti k236_139 rfl (by dsimp only) (by dsimp only)
    · have hH9 : rtH W = up (up (rtG W) 313 4 (W.1 313 4)) 312 5 0 := by
        unfold rtH
        rw [if_neg h1]
      rw [hH9]
      refine wp_aload_n k236_61 rfl rfl ?_
      refine wp_aload_n k236_62 rfl rfl ?_
      refine wp_cv (st2 := [_]) k236_63 EE (by decide) rfl rfl rfl rfl (by decide) hM.o (by decide) ?_
      refine wp_cv (st2 := []) k236_66 EP (by decide) rfl rfl rfl rfl (by decide) hM.o (by decide) ?_
      refine wp_if_ne_T k236_69 (bI_n0.mpr (decide_eq_true h0)) ?_
      refine wp_aload_n k236_87 rfl rfl ?_
      refine wp_getR k236_88 (by decide) hM.o rfl ?_
      refine wp_iconst 4 k236_91 (by decide) ?_
      refine wp_iaload k236_92 (by decide) (hM.a313) (by decide) 4 (by decide) _ rfl ?_
      refine wp_istore_n (L1 := [_, _]) k236_93 rfl rfl ?_
      refine wp_aload_n k236_94 rfl rfl ?_
      refine wp_aload_n k236_95 rfl rfl ?_
      refine wp_getR k236_96 (by decide) hM.o rfl ?_
      refine wp_iconst 2 k236_99 (by decide) ?_
      refine wp_iaload k236_100 (by decide) (hM.a313) (by decide) 2 (by decide) _ rfl ?_
      refine wp_cvn (st2 := []) k236_101 EB (by decide) rfl rfl rfl rfl (by decide) hM.o (by decide) ?_
      refine wp_aload_n k236_104 rfl rfl ?_
      refine wp_getR k236_105 (by decide) hM.o rfl ?_
      refine wp_iconst 4 k236_108 (by decide) ?_
      refine wp_iload_n k236_109 rfl rfl ?_
      refine wp_iconst (-1) k236_110 (by decide) ?_
      refine wp_if_icmp_ne_T k236_111 h1 ?_
      refine wp_iload_n k236_126 rfl rfl ?_
      refine wp_iastore k236_127 (by decide) (hM.a313) (by decide) 4 (by decide) ?_
      refine wp_aload_n k236_128 rfl rfl ?_
      refine wp_iconst 0 k236_129 (by decide) ?_
      refine wp_putI k236_130 (by decide) hM.o rfl rfl rfl ?_
      refine wp_aload_n k236_133 rfl rfl ?_
      refine wp_getR k236_134 (by decide) hM.o rfl ?_
      refine wp_iconst 3 k236_137 (by decide) ?_
      refine wp_iaload k236_138 (by decide) (hM.a313) (by decide) 3 (by decide) _ rfl ?_
      exact wp_reti k236_139 rfl (by dsimp only) (by dsimp only)
  · rw [if_neg h0]
    have EC := e_copies (S := S) (sh := sh) (V := W) (f := 315) (t := 313) (a := 0) (b := 0) (by decide) (by decide) hM.a315 hM.a313 (by decide) (by decide) (by decide) (by decide) (by decide)
    refine wp_aload_n k236_61 rfl rfl ?_
    refine wp_aload_n k236_62 rfl rfl ?_
    refine wp_cv (st2 := [_]) k236_63 EE (by decide) rfl rfl rfl rfl (by decide) hM.o (by decide) ?_
    refine wp_cv (st2 := []) k236_66 EP (by decide) rfl rfl rfl rfl (by decide) hM.o (by decide) ?_
    refine wp_if_ne_F k236_69 (bI_0.mpr (decide_eq_false h0)) ?_
    refine wp_aload_n k236_72 rfl rfl ?_
    refine wp_getR k236_73 (by decide) hM.o rfl ?_
    refine wp_iconst 0 k236_76 (by decide) ?_
    refine wp_aload_n k236_77 rfl rfl ?_
    refine wp_getR k236_78 (by decide) hM.o rfl ?_
    refine wp_iconst 0 k236_81 (by decide) ?_
    refine wp_csn (st2 := []) k236_82 EC (by decide) rfl rfl rfl (by decide) ?_
    refine wp_iconst 0 k236_85 (by decide) ?_
    exact wp_reti k236_86 rfl (by dsimp only) (by dsimp only)
end M22
