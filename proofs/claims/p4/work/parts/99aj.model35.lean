section M35
/-! ===== the reference: worlds; a try and the way back ===== -/
theorem e_worlds {S : ww_S} {sh : List mm_C} {V : hV} (hM : MS sh) : EV S 1 259 [.ref 312] (hH sh V) (.inl (some (.int (V.1 313 2)))) (hH sh (up V 312 6 0)) := by
  refine ev_qe P259 rfl ?_
  refine wp_aload_n k259_0 rfl rfl ?_
  refine wp_iconst 0 k259_1 (by decide) ?_
  refine wp_putI k259_2 (by decide) hM.o rfl rfl rfl ?_
  refine wp_aload_n k259_5 rfl rfl ?_
  refine wp_getR k259_6 (by decide) hM.o rfl ?_
  refine wp_iconst 2 k259_9 (by decide) ?_
  refine wp_iaload k259_10 (by decide) (hM.a313) (by decide) 2 (by decide) (V.1 313 2) (up_ne _ _ (Or.inl (by decide))) ?_
  exact wp_reti k259_11 rfl rfl rfl
theorem e_tries {S : ww_S} {sh : List mm_C} {V : hV} (hM : MS sh) : EV S 2 276 [.ref 312] (hH sh V) (.inl none) (hH sh (cpV V 313 0 316 0 564)) := by
  have EC := e_copies (S := S) (sh := sh) (V := V) (f := 313) (t := 316) (a := 0) (b := 0) (by decide) (by decide) hM.a313 hM.a316 (by decide) (by decide) (by decide) (by decide) (by decide)
  refine ev_qe P276 rfl ?_
  refine wp_aload_n k276_0 rfl rfl ?_
  refine wp_getR k276_1 (by decide) hM.o rfl ?_
  refine wp_iconst 0 k276_4 (by decide) ?_
  refine wp_aload_n k276_5 rfl rfl ?_
  refine wp_getR k276_6 (by decide) hM.o rfl ?_
  refine wp_iconst 0 k276_9 (by decide) ?_
  refine wp_csn (st2 := []) k276_10 EC (by decide) rfl rfl rfl (by decide) ?_
  exact wp_retn k276_13 rfl rfl
theorem e_back {S : ww_S} {sh : List mm_C} {V : hV} (hM : MS sh) {x : Int32} : EV S 2 277 [.ref 312, .int x] (hH sh V) (.inl (some (.int x))) (hH sh (cpV V 316 0 313 0 564)) := by
  have EC := e_copies (S := S) (sh := sh) (V := V) (f := 316) (t := 313) (a := 0) (b := 0) (by decide) (by decide) hM.a316 hM.a313 (by decide) (by decide) (by decide) (by decide) (by decide)
  refine ev_qe P277 rfl ?_
  refine wp_aload_n k277_0 rfl rfl ?_
  refine wp_getR k277_1 (by decide) hM.o rfl ?_
  refine wp_iconst 0 k277_4 (by decide) ?_
  refine wp_aload_n k277_5 rfl rfl ?_
  refine wp_getR k277_6 (by decide) hM.o rfl ?_
  refine wp_iconst 0 k277_9 (by decide) ?_
  refine wp_csn (st2 := []) k277_10 EC (by decide) rfl rfl rfl (by decide) ?_
  refine wp_iload_n k277_13 rfl rfl ?_
  exact wp_reti k277_14 rfl rfl rfl
end M35
