section M30
/-! ===== the reference: which order stands here ===== -/
def ohF (f : Nat → Int32) (l : Nat) (T : hP) : Int32 := if seB f l T 8 2722954614003647691225415099554938208875860019735849454146537387982945 = true then 0 else if seB f l T 3 2232056033335467573363 = true then 1 else if seB f l T 7 715589597981693272485812814088502486138988368637950894801015 = true then 2 else if seB f l T 4 9428151341245044766260166918259 = true then 3 else if seB f l T 5 34028236700808944225064806935567414591602 = true then 4 else -1
theorem e_orderHere {S : ww_S} {sh : List mm_C} {V : hV} {T : hP} (hM : MS sh) {f : Nat → Int32} {l : Nat} (hT : TX V f l) (hO : TO l T) : EV S 6 248 [.ref 312] (hH sh (pp V T)) (.inl (some (.int (ohF f l T)))) (hH sh (pp V (nxP f l T))) := by
  have ha := to_600 hO hT.2.1
  have E1 := e_sees (S := S) (V := V) (a := T.1) (b := T.2.1) (w := T.2.2.1) (e := er T) (ea := T.2.2.2.2) hM hT (by omega) XS36
  have E2 := e_sees2 (S := S) (V := V) (a := T.1) (e := er T) (ea := T.2.2.2.2) hM hT (by omega) XS38
  have E3 := e_sees2 (S := S) (V := V) (a := T.1) (e := er T) (ea := T.2.2.2.2) hM hT (by omega) XS40
  have E4 := e_sees2 (S := S) (V := V) (a := T.1) (e := er T) (ea := T.2.2.2.2) hM hT (by omega) XS42
  have E5 := e_sees2 (S := S) (V := V) (a := T.1) (e := er T) (ea := T.2.2.2.2) hM hT (by omega) XS44
  unfold ohF
  refine ev_qe P248 rfl ?_
  by_cases c0 : seB f l T 8 2722954614003647691225415099554938208875860019735849454146537387982945 = true
  · rw [if_pos c0]
    refine wp_aload_n k248_0 rfl rfl ?_
    refine wp_ldc_wR k248_1 ?_
    refine wp_cv (st2 := []) k248_4 E1 (by decide) rfl rfl rfl rfl (by decide) hM.o (by decide) ?_
    refine wp_if_eq_F k248_7 (bI_n0.mpr c0) ?_
    refine wp_iconst 0 k248_10 (by decide) ?_
    exact wp_reti k248_11 rfl rfl rfl
  · rw [if_neg c0]
    by_cases c1 : seB f l T 3 2232056033335467573363 = true
    · rw [if_pos c1]
      refine wp_aload_n k248_0 rfl rfl ?_
      refine wp_ldc_wR k248_1 ?_
      refine wp_cv (st2 := []) k248_4 E1 (by decide) rfl rfl rfl rfl (by decide) hM.o (by decide) ?_
      refine wp_if_eq_T k248_7 (bI_0.mpr (Bool.eq_false_iff.mpr c0)) ?_
      refine wp_aload_n k248_12 rfl rfl ?_
      refine wp_ldc_wR k248_13 ?_
      refine wp_cv (st2 := []) k248_16 E2 (by decide) rfl rfl rfl rfl (by decide) hM.o (by decide) ?_
      refine wp_if_eq_F k248_19 (bI_n0.mpr c1) ?_
      refine wp_iconst 1 k248_22 (by decide) ?_
      exact wp_reti k248_23 rfl rfl rfl
    · rw [if_neg c1]
      by_cases c2 : seB f l T 7 715589597981693272485812814088502486138988368637950894801015 = true
      · rw [if_pos c2]
        refine wp_aload_n k248_0 rfl rfl ?_
        refine wp_ldc_wR k248_1 ?_
        refine wp_cv (st2 := []) k248_4 E1 (by decide) rfl rfl rfl rfl (by decide) hM.o (by decide) ?_
        refine wp_if_eq_T k248_7 (bI_0.mpr (Bool.eq_false_iff.mpr c0)) ?_
        refine wp_aload_n k248_12 rfl rfl ?_
        refine wp_ldc_wR k248_13 ?_
        refine wp_cv (st2 := []) k248_16 E2 (by decide) rfl rfl rfl rfl (by decide) hM.o (by decide) ?_
        refine wp_if_eq_T k248_19 (bI_0.mpr (Bool.eq_false_iff.mpr c1)) ?_
        refine wp_aload_n k248_24 rfl rfl ?_
        refine wp_ldc_wR k248_25 ?_
        refine wp_cv (st2 := []) k248_28 E3 (by decide) rfl rfl rfl rfl (by decide) hM.o (by decide) ?_
        refine wp_if_eq_F k248_31 (bI_n0.mpr c2) ?_
        refine wp_iconst 2 k248_34 (by decide) ?_
        exact wp_reti k248_35 rfl rfl rfl
      · rw [if_neg c2]
        by_cases c3 : seB f l T 4 9428151341245044766260166918259 = true
        · rw [if_pos c3]
          refine wp_aload_n k248_0 rfl rfl ?_
          refine wp_ldc_wR k248_1 ?_
          refine wp_cv (st2 := []) k248_4 E1 (by decide) rfl rfl rfl rfl (by decide) hM.o (by decide) ?_
          refine wp_if_eq_T k248_7 (bI_0.mpr (Bool.eq_false_iff.mpr c0)) ?_
          refine wp_aload_n k248_12 rfl rfl ?_
          refine wp_ldc_wR k248_13 ?_
          refine wp_cv (st2 := []) k248_16 E2 (by decide) rfl rfl rfl rfl (by decide) hM.o (by decide) ?_
          refine wp_if_eq_T k248_19 (bI_0.mpr (Bool.eq_false_iff.mpr c1)) ?_
          refine wp_aload_n k248_24 rfl rfl ?_
          refine wp_ldc_wR k248_25 ?_
          refine wp_cv (st2 := []) k248_28 E3 (by decide) rfl rfl rfl rfl (by decide) hM.o (by decide) ?_
          refine wp_if_eq_T k248_31 (bI_0.mpr (Bool.eq_false_iff.mpr c2)) ?_
          refine wp_aload_n k248_36 rfl rfl ?_
          refine wp_ldc_wR k248_37 ?_
          refine wp_cv (st2 := []) k248_40 E4 (by decide) rfl rfl rfl rfl (by decide) hM.o (by decide) ?_
          refine wp_if_eq_F k248_43 (bI_n0.mpr c3) ?_
          refine wp_iconst 3 k248_46 (by decide) ?_
          exact wp_reti k248_47 rfl rfl rfl
        · rw [if_neg c3]
          by_cases c4 : seB f l T 5 34028236700808944225064806935567414591602 = true
          · rw [if_pos c4]
            refine wp_aload_n k248_0 rfl rfl ?_
            refine wp_ldc_wR k248_1 ?_
            refine wp_cv (st2 := []) k248_4 E1 (by decide) rfl rfl rfl rfl (by decide) hM.o (by decide) ?_
            refine wp_if_eq_T k248_7 (bI_0.mpr (Bool.eq_false_iff.mpr c0)) ?_
            refine wp_aload_n k248_12 rfl rfl ?_
            refine wp_ldc_wR k248_13 ?_
            refine wp_cv (st2 := []) k248_16 E2 (by decide) rfl rfl rfl rfl (by decide) hM.o (by decide) ?_
            refine wp_if_eq_T k248_19 (bI_0.mpr (Bool.eq_false_iff.mpr c1)) ?_
            refine wp_aload_n k248_24 rfl rfl ?_
            refine wp_ldc_wR k248_25 ?_
            refine wp_cv (st2 := []) k248_28 E3 (by decide) rfl rfl rfl rfl (by decide) hM.o (by decide) ?_
            refine wp_if_eq_T k248_31 (bI_0.mpr (Bool.eq_false_iff.mpr c2)) ?_
            refine wp_aload_n k248_36 rfl rfl ?_
            refine wp_ldc_wR k248_37 ?_
            refine wp_cv (st2 := []) k248_40 E4 (by decide) rfl rfl rfl rfl (by decide) hM.o (by decide) ?_
            refine wp_if_eq_T k248_43 (bI_0.mpr (Bool.eq_false_iff.mpr c3)) ?_
            refine wp_aload_n k248_48 rfl rfl ?_
            refine wp_ldc_wR k248_49 ?_
            refine wp_cv (st2 := []) k248_52 E5 (by decide) rfl rfl rfl rfl (by decide) hM.o (by decide) ?_
            refine wp_if_eq_F k248_55 (bI_n0.mpr c4) ?_
            refine wp_iconst 4 k248_58 (by decide) ?_
            refine wp_goto k248_59 ?_
            exact wp_reti k248_63 rfl rfl rfl
          · rw [if_neg c4]
            refine wp_aload_n k248_0 rfl rfl ?_
            refine wp_ldc_wR k248_1 ?_
            refine wp_cv (st2 := []) k248_4 E1 (by decide) rfl rfl rfl rfl (by decide) hM.o (by decide) ?_
            refine wp_if_eq_T k248_7 (bI_0.mpr (Bool.eq_false_iff.mpr c0)) ?_
            refine wp_aload_n k248_12 rfl rfl ?_
            refine wp_ldc_wR k248_13 ?_
            refine wp_cv (st2 := []) k248_16 E2 (by decide) rfl rfl rfl rfl (by decide) hM.o (by decide) ?_
            refine wp_if_eq_T k248_19 (bI_0.mpr (Bool.eq_false_iff.mpr c1)) ?_
            refine wp_aload_n k248_24 rfl rfl ?_
            refine wp_ldc_wR k248_25 ?_
            refine wp_cv (st2 := []) k248_28 E3 (by decide) rfl rfl rfl rfl (by decide) hM.o (by decide) ?_
            refine wp_if_eq_T k248_31 (bI_0.mpr (Bool.eq_false_iff.mpr c2)) ?_
            refine wp_aload_n k248_36 rfl rfl ?_
            refine wp_ldc_wR k248_37 ?_
            refine wp_cv (st2 := []) k248_40 E4 (by decide) rfl rfl rfl rfl (by decide) hM.o (by decide) ?_
            refine wp_if_eq_T k248_43 (bI_0.mpr (Bool.eq_false_iff.mpr c3)) ?_
            refine wp_aload_n k248_48 rfl rfl ?_
            refine wp_ldc_wR k248_49 ?_
            refine wp_cv (st2 := []) k248_52 E5 (by decide) rfl rfl rfl rfl (by decide) hM.o (by decide) ?_
            refine wp_if_eq_T k248_55 (bI_0.mpr (Bool.eq_false_iff.mpr c4)) ?_
            refine wp_iconst (-1) k248_62 (by decide) ?_
            exact wp_reti k248_63 rfl rfl rfl
end M30
