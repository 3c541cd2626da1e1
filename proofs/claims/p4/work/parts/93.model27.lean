section M27
/-! ===== the reference: a round, a whisper ===== -/
theorem paV_1 {V : hV} {p : Nat} {x : Int32} : (paV V p x).1 313 1 = V.1 313 1 := by
  unfold paV grV
  rw [up_ne _ _ (Or.inr (by decide))]
  exact ovr_none V (if_neg (by omega))
theorem whF_1 {A : hV} {x set : Int32} : ∀ p, (whF A x set p).2.1 313 1 = A.1 313 1
  | 0 => rfl
  | p + 1 => by
    rw [whF.eq_2]
    split
    · exact paV_1.trans (whF_1 p)
    · exact whF_1 p
def whV (A : hV) (x set : Int32) (n : Nat) : hV := noW (grV (whF A x set n).2 2 1) 2 set 0
theorem l_round {S : ww_S} {sh : List mm_C} {V : hV} (hM : MS sh) {n : Nat} (hn : V.1 313 1 = Int32.ofNat n) (h5 : n ≤ 5) {fact set k : Int32} {Q} : ∀ m i : Nat, m + i = 32 → WP S 6 mm_m247 72 [some (.ref 312), some (.int fact), some (.int set), some (.int k), some (.int (roF V n set k 32)), some (.int (Int32.ofNat 32))] [] (hH sh V) Q → WP S 6 mm_m247 23 [some (.ref 312), some (.int fact), some (.int set), some (.int k), some (.int (roF V n set k i)), some (.int (Int32.ofNat i))] [] (hH sh V) Q := by
  intro m
  induction m with
  | zero =>
    intro i hi E
    have hi : i = 32 := by omega
    subst hi
    refine wp_iload k247_23 rfl rfl ?_
    refine wp_bipush 32 k247_25 (by decide) ?_
    refine wp_if_icmp_ge_T k247_27 (i_nlt (k := 32) (n := 32) (by decide) (by decide)) ?_
    exact E
  | succ m ih =>
    intro i hi E
    have EK := e_knowersOf (S := S) (V := V) hM hn h5 (w := i) (by omega) (set := set)
    have hst : ∀ b : Int32, b = (if isl V i = true ∧ kwF V i set n = k then 1 else 0) → roF V n set k i ||| (b <<< (Int32.ofNat i &&& 31)) = roF V n set k (i + 1) := fun b hb => by
      rw [hb]
      rfl
    by_cases c1 : isl V i = true
    · by_cases c2 : kwF V i set n = k
      · skip
        refine wp_iload k247_23 rfl rfl ?_
        refine wp_bipush 32 k247_25 (by decide) ?_
        refine wp_if_icmp_ge_F k247_27 (i_lt (n := 32) (by omega) (by decide)) ?_
        refine wp_iload k247_30 rfl rfl ?_
        refine wp_aload_n k247_32 rfl rfl ?_
        refine wp_iload k247_33 rfl rfl ?_
        refine wp_cv (st2 := [_]) k247_35 (e_isLeft hM) (by decide) rfl rfl rfl rfl (by decide) hM.o (by decide) ?_
        refine wp_if_eq_F k247_38 (bI_n0.mpr c1) ?_
        refine wp_aload_n k247_41 rfl rfl ?_
        refine wp_iload k247_42 rfl rfl ?_
        refine wp_iload_n k247_44 rfl rfl ?_
        refine wp_cv (st2 := [_]) k247_45 EK (by decide) rfl rfl rfl rfl (by decide) hM.o (by decide) ?_
        refine wp_iload_n k247_48 rfl rfl ?_
        refine wp_if_icmp_ne_F k247_49 c2 ?_
        refine wp_iconst 1 k247_52 (by decide) ?_
        refine wp_goto k247_53 ?_
        refine wp_cs (st2 := [_]) k247_57 (e_truth) (by decide) rfl rfl rfl (by decide) ?_
        refine wp_iload k247_60 rfl rfl ?_
        refine wp_ishl k247_62 ?_
        refine wp_ior k247_63 ?_
        refine wp_istore (L1 := [_, _, _, _, _, _]) k247_64 rfl rfl ?_
        refine wp_iinc (L1 := [_, _, _, _, _, _]) 1 k247_66 rfl (by decide) rfl ?_
        refine wp_goto k247_69 ?_
        refine wp_eq (ih (i + 1) (by omega) E) (by rw [← hst _ (if_pos ⟨c1, c2⟩).symm, i_succ]; rfl) rfl rfl
      · skip
        refine wp_iload k247_23 rfl rfl ?_
        refine wp_bipush 32 k247_25 (by decide) ?_
        refine wp_if_icmp_ge_F k247_27 (i_lt (n := 32) (by omega) (by decide)) ?_
        refine wp_iload k247_30 rfl rfl ?_
        refine wp_aload_n k247_32 rfl rfl ?_
        refine wp_iload k247_33 rfl rfl ?_
        refine wp_cv (st2 := [_]) k247_35 (e_isLeft hM) (by decide) rfl rfl rfl rfl (by decide) hM.o (by decide) ?_
        refine wp_if_eq_F k247_38 (bI_n0.mpr c1) ?_
        refine wp_aload_n k247_41 rfl rfl ?_
        refine wp_iload k247_42 rfl rfl ?_
        refine wp_iload_n k247_44 rfl rfl ?_
        refine wp_cv (st2 := [_]) k247_45 EK (by decide) rfl rfl rfl rfl (by decide) hM.o (by decide) ?_
        refine wp_iload_n k247_48 rfl rfl ?_
        refine wp_if_icmp_ne_T k247_49 c2 ?_
        refine wp_iconst 0 k247_56 (by decide) ?_
        refine wp_cs (st2 := [_]) k247_57 (e_truth) (by decide) rfl rfl rfl (by decide) ?_
        refine wp_iload k247_60 rfl rfl ?_
        refine wp_ishl k247_62 ?_
        refine wp_ior k247_63 ?_
        refine wp_istore (L1 := [_, _, _, _, _, _]) k247_64 rfl rfl ?_
        refine wp_iinc (L1 := [_, _, _, _, _, _]) 1 k247_66 rfl (by decide) rfl ?_
        refine wp_goto k247_69 ?_
        refine wp_eq (ih (i + 1) (by omega) E) (by rw [← hst _ (if_neg (fun z => c2 z.2)).symm, i_succ]; rfl) rfl rfl
    · skip
      refine wp_iload k247_23 rfl rfl ?_
      refine wp_bipush 32 k247_25 (by decide) ?_
      refine wp_if_icmp_ge_F k247_27 (i_lt (n := 32) (by omega) (by decide)) ?_
      refine wp_iload k247_30 rfl rfl ?_
      refine wp_aload_n k247_32 rfl rfl ?_
      refine wp_iload k247_33 rfl rfl ?_
      refine wp_cv (st2 := [_]) k247_35 (e_isLeft hM) (by decide) rfl rfl rfl rfl (by decide) hM.o (by decide) ?_
      refine wp_if_eq_T k247_38 (bI_0.mpr (Bool.eq_false_iff.mpr c1)) ?_
      refine wp_iconst 0 k247_56 (by decide) ?_
      refine wp_cs (st2 := [_]) k247_57 (e_truth) (by decide) rfl rfl rfl (by decide) ?_
      refine wp_iload k247_60 rfl rfl ?_
      refine wp_ishl k247_62 ?_
      refine wp_ior k247_63 ?_
      refine wp_istore (L1 := [_, _, _, _, _, _]) k247_64 rfl rfl ?_
      refine wp_iinc (L1 := [_, _, _, _, _, _]) 1 k247_66 rfl (by decide) rfl ?_
      refine wp_goto k247_69 ?_
      refine wp_eq (ih (i + 1) (by omega) E) (by rw [← hst _ (if_neg (fun z => c1 z.1)).symm, i_succ]; rfl) rfl rfl
theorem e_roundNow {S : ww_S} {sh : List mm_C} {V : hV} (hM : MS sh) {n : Nat} (hn : V.1 313 1 = Int32.ofNat n) (h5 : n ≤ 5) {rw : Nat} (hrw : V.1 313 4 = Int32.ofNat rw) (h32 : rw < 32) {fact : Int32} : EV S 7 247 [.ref 312, .int fact] (hH sh V) (.inl (some (.int (kwF V rw (wof fact) n)))) (hH sh (roV V n rw fact)) := by
  have EK := e_knowersOf (S := S) (V := V) hM hn h5 (w := rw) h32 (set := wof fact)
  have EL := fun {Q} => l_round (S := S) (V := V) hM hn h5 (fact := fact) (set := wof fact) (k := kwF V rw (wof fact) n) (Q := Q) 32 0 rfl
  refine ev_qe P247 rfl ?_
  refine wp_iload_n k247_0 rfl rfl ?_
  refine wp_cs (st2 := []) k247_1 (e_worldsOf) (by decide) rfl rfl rfl (by decide) ?_
  refine wp_istore_n (L1 := [_, _, _, _, _, _]) k247_4 rfl rfl ?_
  refine wp_aload_n k247_5 rfl rfl ?_
  refine wp_aload_n k247_6 rfl rfl ?_
  refine wp_getR k247_7 (by decide) hM.o rfl ?_
  refine wp_iconst 4 k247_10 (by decide) ?_
  refine wp_iaload k247_11 (by decide) (hM.a313) (by decide) 4 (by decide) (Int32.ofNat rw) hrw ?_
  refine wp_iload_n k247_12 rfl rfl ?_
  refine wp_cv (st2 := []) k247_13 EK (by decide) rfl rfl rfl rfl (by decide) hM.o (by decide) ?_
  refine wp_istore_n (L1 := [_, _, _, _, _, _]) k247_16 rfl rfl ?_
  refine wp_iconst 0 k247_17 (by decide) ?_
  refine wp_istore (L1 := [_, _, _, _, _, _]) k247_18 rfl rfl ?_
  refine wp_iconst 0 k247_20 (by decide) ?_
  refine wp_istore (L1 := [_, _, _, _, _, _]) k247_21 rfl rfl ?_
  refine EL ?_
  refine wp_aload_n k247_72 rfl rfl ?_
  refine wp_iload k247_73 rfl rfl ?_
  refine wp_cv (st2 := []) k247_75 (e_rules hM) (by decide) rfl rfl rfl rfl (by decide) hM.o (by decide) ?_
  refine wp_istore (L1 := [_, _, _, _, _, _]) k247_78 rfl rfl ?_
  refine wp_aload_n k247_80 rfl rfl ?_
  refine wp_iconst 4 k247_81 (by decide) ?_
  refine wp_iconst 1 k247_82 (by decide) ?_
  refine wp_cvn (st2 := []) k247_83 (e_grows hM (k := 4) (by decide)) (by decide) rfl rfl rfl rfl (by decide) hM.o (by decide) ?_
  refine wp_aload_n k247_86 rfl rfl ?_
  refine wp_iconst 4 k247_87 (by decide) ?_
  refine wp_iconst 0 k247_88 (by decide) ?_
  refine wp_iload k247_89 rfl rfl ?_
  refine wp_cvn (st2 := []) k247_91 (e_notes hM) (by decide) rfl rfl rfl rfl (by decide) hM.o (by decide) ?_
  refine wp_iload_n k247_94 rfl rfl ?_
  exact wp_reti k247_95 rfl rfl rfl
theorem l_whisper {S : ww_S} {sh : List mm_C} {A : hV} (hM : MS sh) {n : Nat} (hn : A.1 313 1 = Int32.ofNat n) (h5 : n ≤ 5) {ar : Nat} {set x b : Int32} {Q} : ∀ m i : Nat, m + i = n → WP S 9 mm_m244 55 [some (.ref 312), some (.int set), some (.ref ar), some (.int b), some (.int x), some (.int (whF A x set n).1), some (.int (Int32.ofNat n))] [] (hH sh (whF A x set n).2) Q → WP S 9 mm_m244 14 [some (.ref 312), some (.int set), some (.ref ar), some (.int b), some (.int x), some (.int (whF A x set i).1), some (.int (Int32.ofNat i))] [] (hH sh (whF A x set i).2) Q := by
  intro m
  induction m with
  | zero =>
    intro i hi E
    have hi : i = n := by omega
    subst hi
    have EQ := e_persons (S := S) (V := (whF A x set i).2) hM
    rw [whF_1, hn] at EQ
    refine wp_iload k244_14 rfl rfl ?_
    refine wp_aload_n k244_16 rfl rfl ?_
    refine wp_cv (st2 := [_]) k244_17 EQ (by decide) rfl rfl rfl rfl (by decide) hM.o (by decide) ?_
    refine wp_if_icmp_ge_T k244_20 (i_nlt (by omega) (by omega)) ?_
    exact E
  | succ m ih =>
    intro i hi E
    have EQ := e_persons (S := S) (V := (whF A x set i).2) hM
    rw [whF_1, hn] at EQ
    have EP := e_parts (S := S) (V := (whF A x set i).2) hM (p := i) (by omega) (set := x)
    by_cases c1 : hasB set (Int32.ofNat i) = true
    · have hw : whF A x set (i + 1) = ((whF A x set i).1 + pbF (whF A x set i).2 i x 32, paV (whF A x set i).2 i x) := if_pos c1
      have E2 := ih (i + 1) (by omega) E
      rw [hw] at E2
      refine wp_iload k244_14 rfl rfl ?_
      refine wp_aload_n k244_16 rfl rfl ?_
      refine wp_cv (st2 := [_]) k244_17 EQ (by decide) rfl rfl rfl rfl (by decide) hM.o (by decide) ?_
      refine wp_if_icmp_ge_F k244_20 (i_lt (by omega) (by omega)) ?_
      refine wp_iload k244_23 rfl rfl ?_
      refine wp_iload_n k244_25 rfl rfl ?_
      refine wp_iload k244_26 rfl rfl ?_
      refine wp_cs (st2 := [_]) k244_28 (e_has) (by decide) rfl rfl rfl (by decide) ?_
      refine wp_if_eq_F k244_31 (bI_n0.mpr c1) ?_
      refine wp_aload_n k244_34 rfl rfl ?_
      refine wp_iload k244_35 rfl rfl ?_
      refine wp_iload k244_37 rfl rfl ?_
      refine wp_cv (st2 := [_]) k244_39 EP (by decide) rfl rfl rfl rfl (by decide) hM.o (by decide) ?_
      refine wp_goto k244_42 ?_
      refine wp_iadd k244_46 ?_
      refine wp_istore (L1 := [_, _, _, _, _, _, _]) k244_47 rfl rfl ?_
      refine wp_iinc (L1 := [_, _, _, _, _, _, _]) 1 k244_49 rfl (by decide) rfl ?_
      refine wp_goto k244_52 ?_
      exact wp_eq E2 (by rw [i_succ]) rfl rfl
    · have hw : whF A x set (i + 1) = ((whF A x set i).1 + 0, (whF A x set i).2) := if_neg c1
      have E2 := ih (i + 1) (by omega) E
      rw [hw] at E2
      refine wp_iload k244_14 rfl rfl ?_
      refine wp_aload_n k244_16 rfl rfl ?_
      refine wp_cv (st2 := [_]) k244_17 EQ (by decide) rfl rfl rfl rfl (by decide) hM.o (by decide) ?_
      refine wp_if_icmp_ge_F k244_20 (i_lt (by omega) (by omega)) ?_
      refine wp_iload k244_23 rfl rfl ?_
      refine wp_iload_n k244_25 rfl rfl ?_
      refine wp_iload k244_26 rfl rfl ?_
      refine wp_cs (st2 := [_]) k244_28 (e_has) (by decide) rfl rfl rfl (by decide) ?_
      refine wp_if_eq_T k244_31 (bI_0.mpr (Bool.eq_false_iff.mpr c1)) ?_
      refine wp_iconst 0 k244_45 (by decide) ?_
      refine wp_iadd k244_46 ?_
      refine wp_istore (L1 := [_, _, _, _, _, _, _]) k244_47 rfl rfl ?_
      refine wp_iinc (L1 := [_, _, _, _, _, _, _]) 1 k244_49 rfl (by decide) rfl ?_
      refine wp_goto k244_52 ?_
      exact wp_eq E2 (by rw [i_succ]) rfl rfl
theorem e_whisperNow {S : ww_S} {sh : List mm_C} {V : hV} (hM : MS sh) {n : Nat} (hn : V.1 313 1 = Int32.ofNat n) (h5 : n ≤ 5) {ar zn : Nat} (hAr : AOK sh ar zn) {b m : Nat} (hb : b + 241 ≤ zn) (hF : FOK V n ar b m) {set : Int32} : EV S 10 244 [.ref 312, .int set, .ref ar, .int (Int32.ofNat b)] (hH sh V) (.inl (some (.int (whF (askF V n ar b m) (asX V ar n b m) set n).1))) (hH sh (whV (askF V n ar b m) (asX V ar n b m) set n)) := by
  have EA := e_asked (S := S) (V := V) hM hn h5 (f := ar) hAr.1 hAr.2.1 hAr.2.2.1 hb hAr.2.2.2 hF
  have h4 : (askF V n ar b m).1 313 4 = V.1 313 4 := askF_ne V n ar b (by decide) 4 m
  obtain ⟨A, hA⟩ : ∃ A, askF V n ar b m = A := ⟨_, rfl⟩
  obtain ⟨x, hx⟩ : ∃ x, A.1 318 (m - 1) = x := ⟨_, rfl⟩
  have hx2 : asX V ar n b m = x := by
    unfold asX
    rw [hA, hx]
  have hn2 : A.1 313 1 = Int32.ofNat n := by rw [← hA, askF_ne _ _ _ _ (by decide)]; exact hn
  rw [hA] at EA
  rw [hx] at EA
  rw [hx2, hA]
  have EL := fun {Q} => l_whisper (S := S) (A := A) hM hn2 h5 (ar := ar) (set := set) (x := x) (b := Int32.ofNat b) (Q := Q) n 0 rfl
  refine ev_qe P244 rfl ?_
  refine wp_aload_n k244_0 rfl rfl ?_
  refine wp_aload_n k244_1 rfl rfl ?_
  refine wp_iload_n k244_2 rfl rfl ?_
  refine wp_cv (st2 := []) k244_3 EA (by decide) rfl rfl rfl rfl (by decide) hM.o (by decide) ?_
  refine wp_istore (L1 := [_, _, _, _, _, _, _]) k244_6 rfl rfl ?_
  refine wp_iconst 0 k244_8 (by decide) ?_
  refine wp_istore (L1 := [_, _, _, _, _, _, _]) k244_9 rfl rfl ?_
  refine wp_iconst 0 k244_11 (by decide) ?_
  refine wp_istore (L1 := [_, _, _, _, _, _, _]) k244_12 rfl rfl ?_
  refine EL ?_
  refine wp_aload_n k244_55 rfl rfl ?_
  refine wp_iconst 2 k244_56 (by decide) ?_
  refine wp_iconst 1 k244_57 (by decide) ?_
  refine wp_cvn (st2 := []) k244_58 (e_grows hM (k := 2) (by decide)) (by decide) rfl rfl rfl rfl (by decide) hM.o (by decide) ?_
  refine wp_aload_n k244_61 rfl rfl ?_
  refine wp_iconst 2 k244_62 (by decide) ?_
  refine wp_iload_n k244_63 rfl rfl ?_
  refine wp_iconst 0 k244_64 (by decide) ?_
  refine wp_cvn (st2 := []) k244_65 (e_notes hM) (by decide) rfl rfl rfl rfl (by decide) hM.o (by decide) ?_
  refine wp_iload k244_68 rfl rfl ?_
  exact wp_reti k244_70 rfl rfl rfl
end M27
