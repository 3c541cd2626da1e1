section M29
theorem l_keep {S : ww_S} {sh : List mm_C} {V : hV} (hM : MS sh) {ar : Nat} (hAr : AOK sh ar 564) {Q} : ∀ m i : Nat, m + i = 3948 → WP S 2 mm_m253 40 [some (.ref 312), some (.ref ar), some (.int (Int32.ofNat 3948))] [] (hH sh (keS V 3948)) Q → WP S 2 mm_m253 11 [some (.ref 312), some (.ref ar), some (.int (Int32.ofNat i))] [] (hH sh (keS V i)) Q := by
  intro m
  induction m with
  | zero =>
    intro i hi E
    have hi : i = 3948 := by omega
    subst hi
    refine wp_iload_n k253_11 rfl rfl ?_
    refine wp_sipush 3948 k253_12 (by decide) ?_
    refine wp_if_icmp_ge_T k253_15 (i_nlt (k := 3948) (n := 3948) (by decide) (by decide)) ?_
    exact E
  | succ m ih =>
    intro i hi E
    have hv : (keS V i).1 317 (i + 564) = V.1 317 (i + 564) := ovr_none V (if_neg (by omega))
    have hn : up (keS V i) 317 i (V.1 317 (i + 564)) = keS V (i + 1) := by
      unfold keS
      rw [ovr_up]
      congr 1
      funext j
      by_cases e : j = i
      · rw [if_pos e, if_pos (by omega), e]
      · rw [if_neg e]
        by_cases e2 : j < i
        · rw [if_pos e2, if_pos (by omega)]
        · rw [if_neg e2, if_neg (by omega)]
    refine wp_iload_n k253_11 rfl rfl ?_
    refine wp_sipush 3948 k253_12 (by decide) ?_
    refine wp_if_icmp_ge_F k253_15 (i_lt (n := 3948) (by omega) (by decide)) ?_
    refine wp_aload_n k253_18 rfl rfl ?_
    refine wp_getR k253_19 (by decide) hM.o rfl ?_
    refine wp_iload_n k253_22 rfl rfl ?_
    refine wp_aload_n k253_23 rfl rfl ?_
    refine wp_getR k253_24 (by decide) hM.o rfl ?_
    refine wp_iload_n k253_27 rfl rfl ?_
    refine wp_sipush 564 k253_28 (by decide) ?_
    refine wp_iadd k253_31 ?_
    refine wp_cast (show Int32.ofNat (i) + (564 : Int32) = Int32.ofNat (i + 564) from (Int32.ofNat_add _ 564).symm) ?_
    refine wp_iaload k253_32 (by decide) (hM.a317) (i_inO (by omega) (by decide)) (i + 564) (i_un (by omega)) (V.1 317 (i + 564)) hv ?_
    refine wp_iastore k253_33 (by decide) (hM.a317) (i_inO (by omega) (by decide)) (i) (i_un (by omega)) ?_
    refine wp_iinc (L1 := [_, _, _]) 1 k253_34 rfl (by decide) rfl ?_
    refine wp_goto k253_37 ?_
    exact wp_eq (ih (i + 1) (by omega) E) (by rw [i_succ]) rfl (congrArg (hH sh) hn)
theorem l_keep2 {S : ww_S} {sh : List mm_C} {V : hV} (hM : MS sh) {ar : Nat} (hAr : AOK sh ar 564) (h7a : ar ≠ 317) {q : Nat} (hq : V.1 312 5 = Int32.ofNat q) (h7 : q ≤ 7) {y : Option Value} : WP S 2 mm_m253 50 [some (.ref 312), some (.ref ar), y] [] (hH sh V) (qe (.inl none) (hH sh (up (cpV V ar 0 317 (564 * q) 564) 312 5 (Int32.ofNat (q + 1))))) := by
  have EC := e_copies (S := S) (sh := sh) (V := V) (f := ar) (t := 317) (a := 0) (b := 564 * q) hAr.1 (by decide) hAr.2.1 hM.a317 h7a (by decide) (by omega) (by decide) (by decide)
  have hc : (cpV V ar 0 317 (564 * q) 564).1 312 5 = Int32.ofNat q := by
    unfold cpV
    rw [ovr_ne _ _ (by decide)]
    exact hq
  refine wp_aload_n k253_50 rfl rfl ?_
  refine wp_iconst 0 k253_51 (by decide) ?_
  refine wp_aload_n k253_52 rfl rfl ?_
  refine wp_getR k253_53 (by decide) hM.o rfl ?_
  refine wp_sipush 564 k253_56 (by decide) ?_
  refine wp_aload_n k253_59 rfl rfl ?_
  refine wp_getI k253_60 (by decide) hM.o rfl (Int32.ofNat q) hq ?_
  refine wp_imul k253_63 ?_
  refine wp_cast (show (564 : Int32) * Int32.ofNat (q) = Int32.ofNat (564 * q) from (Int32.ofNat_mul 564 _).symm) ?_
  refine wp_csn (st2 := []) k253_64 EC (by decide) rfl rfl rfl (by decide) ?_
  refine wp_aload_n k253_67 rfl rfl ?_
  refine wp_dup k253_68 rfl ?_
  refine wp_getI k253_69 (by decide) hM.o rfl (Int32.ofNat q) hc ?_
  refine wp_iconst 1 k253_72 (by decide) ?_
  refine wp_iadd k253_73 ?_
  refine wp_cast (show Int32.ofNat (q) + (1 : Int32) = Int32.ofNat (q + 1) from (Int32.ofNat_add _ 1).symm) ?_
  refine wp_putI k253_74 (by decide) hM.o rfl rfl rfl ?_
  exact wp_retn k253_77 rfl rfl
theorem e_keepsA {S : ww_S} {sh : List mm_C} {V : hV} (hM : MS sh) {ar : Nat} (hAr : AOK sh ar 564) (h7a : ar ≠ 317) {pm : Nat} (hp : V.1 312 5 = Int32.ofNat pm) (h8 : pm ≤ 8) : EV S 3 253 [.ref 312, .ref ar] (hH sh V) (.inl none) (hH sh (keW ar V pm)) := by
  refine ev_qe P253 rfl ?_
  unfold keW keQ
  by_cases h0 : pm = 8
  · rw [if_pos h0, if_pos h0]
    have E50 := fun y => l_keep2 (S := S) (sh := sh) (V := up (keS V 3948) 312 5 7) hM hAr h7a (q := 7) (up_eq _ _ _ _) (by decide) (y := y)
    have EL := fun {Q} => l_keep (S := S) (V := V) hM hAr (Q := Q) 3948 0 rfl
    rw [show keS V 0 = V by unfold keS; rw [show (fun j => if j < 0 then some (V.1 317 (j + 564)) else none) = (fun _ : Nat => (none : Option Int32)) from funext fun j => if_neg (by omega)]; exact ovr_0 V 317] at EL
    have hk : (keS V 3948).1 312 5 = Int32.ofNat 8 := by
      unfold keS
      rw [ovr_ne _ _ (by decide), hp, h0]
    refine wp_aload_n k253_0 rfl rfl ?_
    refine wp_getI k253_1 (by decide) hM.o rfl (Int32.ofNat pm) hp ?_
    refine wp_bipush 8 k253_4 (by decide) ?_
    refine wp_if_icmp_ne_F k253_6 (by rw [h0]; rfl) ?_
    refine wp_iconst 0 k253_9 (by decide) ?_
    refine wp_istore_n (L1 := [_, _, _]) k253_10 rfl rfl ?_
    refine EL ?_
    refine wp_aload_n k253_40 rfl rfl ?_
    refine wp_dup k253_41 rfl ?_
    refine wp_getI k253_42 (by decide) hM.o rfl (Int32.ofNat 8) hk ?_
    refine wp_iconst 1 k253_45 (by decide) ?_
    refine wp_isub k253_46 ?_
    refine wp_cast (i_pred (by omega)) ?_
    refine wp_putI k253_47 (by decide) hM.o rfl rfl rfl ?_
    exact wp_eq (E50 _) rfl rfl rfl
  · rw [if_neg h0, if_neg h0]
    have E50 := fun y => l_keep2 (S := S) (sh := sh) (V := V) hM hAr h7a (q := pm) hp (by omega) (y := y)
    refine wp_aload_n k253_0 rfl rfl ?_
    refine wp_getI k253_1 (by decide) hM.o rfl (Int32.ofNat pm) hp ?_
    refine wp_bipush 8 k253_4 (by decide) ?_
    refine wp_if_icmp_ne_T k253_6 (fun z => h0 (i_inj (b := 8) (by omega) (by decide) z)) ?_
    exact E50 _
theorem e_keeps {S : ww_S} {sh : List mm_C} {V : hV} (hM : MS sh) {pm : Nat} (hp : V.1 312 5 = Int32.ofNat pm) (h8 : pm ≤ 8) : EV S 3 253 [.ref 312, .ref 313] (hH sh V) (.inl none) (hH sh (keV V pm)) := e_keepsA hM (AOK.s hM) (by decide) hp h8
end M29
