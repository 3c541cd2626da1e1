section M74
/-! ===== the class: a byte of the output ===== -/
theorem e_sbAt {S : ww_S} {sh : List mm_C} {V : hV} {q cap c : Nat} (hB : SBI sh V q cap c) {x : Int32} (h0 : ¬ x < 0) (h1 : x < Int32.ofNat c) : EV S 3 348 [.ref 183, .int x] (hH sh V) (.inl (some (.int (i2c (V.1 q (mm_un x) &&& 255))))) (hH sh V) := by
  have hle := hB.le
  have hm := hB.m
  have h2 : x < Int32.ofNat cap := by
    by_cases e : c = cap
    · subst e
      exact h1
    · exact Int32.lt_trans h1 (i_lt (by omega) (by omega))
  refine ev_qe P348 rfl ?_
  refine wp_aload_n k348_0 rfl rfl ?_
  refine wp_getI k348_1 (by decide) hB.o rfl _ hB.cd ?_
  refine wp_istore_n (L1 := [_, _, _, _, _]) k348_4 rfl rfl ?_
  refine wp_aload_n k348_5 rfl rfl ?_
  refine wp_getR k348_6 (by decide) hB.o rfl ?_
  refine wp_astore_n (L1 := [_, _, _, _, _]) k348_9 rfl rfl ?_
  refine wp_aload_n k348_10 rfl rfl ?_
  refine wp_getI k348_11 (by decide) hB.o rfl _ hB.n ?_
  refine wp_aload_n k348_14 rfl rfl ?_
  refine wp_alen k348_15 rfl hB.q64 hB.s ?_
  refine wp_iload_n k348_16 rfl rfl ?_
  refine wp_ishr k348_17 ?_
  refine wp_cast (sr0 _) ?_
  refine wp_min k348_18 rfl ?_
  refine wp_cast (mn_le (a := c) (b := cap) hle (by omega)) ?_
  refine wp_istore (L1 := [_, _, _, _, _]) k348_21 rfl rfl ?_
  refine wp_iload_n k348_23 rfl rfl ?_
  refine wp_iload k348_24 rfl rfl ?_
  refine wp_csn (st2 := []) k348_26 (e_ck h0 h1) (by decide) rfl rfl rfl (by decide) ?_
  refine wp_iload_n k348_29 rfl rfl ?_
  refine wp_if_ne_F k348_30 rfl ?_
  refine wp_aload_n k348_33 rfl rfl ?_
  refine wp_iload_n k348_34 rfl rfl ?_
  refine wp_baload k348_35 hB.q64 hB.s (in_of h0 h2 hm) _ rfl _ rfl ?_
  refine wp_sipush 255 k348_36 (by decide) ?_
  refine wp_iand k348_39 ?_
  refine wp_i2c k348_40 ?_
  exact wp_retc k348_41 rfl rfl (i_char _) rfl
theorem e_sbA {S : ww_S} {sh : List mm_C} {V : hV} {q cap c : Nat} (hB : SBI sh V q cap c) {x : Int32} (h0 : ¬ x < 0) (h1 : x < Int32.ofNat c) : EV S 4 376 [.ref 183, .int x] (hH sh V) (.inl (some (.int (i2c (V.1 q (mm_un x) &&& 255))))) (hH sh V) := by
  refine ev_qe P376 rfl ?_
  refine wp_aload_n k376_0 rfl rfl ?_
  refine wp_iload_n k376_1 rfl rfl ?_
  refine wp_c4 (st2 := []) k376_2 (e_sbAt hB h0 h1) rfl rfl rfl rfl (by decide) hB.o (by decide) ?_
  exact wp_retc k376_5 rfl rfl (i_char _) rfl
theorem cw142 {S : ww_S} {sh : List mm_C} {V : hV} (hW : WI sh) (hb : SBok sh V) {p1 : Int32} : EVQ S 5 142 [.ref 64, .int p1] (hH sh V) (wI sh V) := by
  obtain ⟨q0, hk⟩ := hW.who
  obtain ⟨q, cap, c, hB⟩ := hb
  refine ev_of P142 rfl ?_
  refine wp_iload_n k142_0 rfl rfl ?_
  refine wp_if_lt k142_1 (fun c1 => ?_) (fun c1 => ?_)
  · refine wp_iconst (-1) k142_26 (by decide) ?_
    exact wp_retI k142_27 rfl ⟨_, _, rfl, rfl, FR.r sh V⟩
  · refine wp_iload_n k142_4 rfl rfl ?_
    refine wp_aload_n k142_5 rfl rfl ?_
    refine wq_getR k142_6 hk.1 rfl ?_
    refine wp_cv (st2 := [_]) k142_9 (e_sbLen hB) (by decide) rfl rfl rfl rfl (by decide) hB.o (by decide) ?_
    refine wp_if_icmp_ge k142_12 (fun c7 => ?_) (fun c7 => ?_)
    · refine wp_iconst (-1) k142_26 (by decide) ?_
      exact wp_retI k142_27 rfl ⟨_, _, rfl, rfl, FR.r sh V⟩
    · refine wp_aload_n k142_15 rfl rfl ?_
      refine wq_getR k142_16 hk.1 rfl ?_
      refine wp_iload_n k142_19 rfl rfl ?_
      refine wp_cv (st2 := []) k142_20 (e_sbA hB c1 c7) (by decide) rfl rfl rfl rfl (by decide) hB.o (by decide) ?_
      refine wp_goto k142_23 ?_
      exact wp_retI k142_27 rfl ⟨_, _, rfl, rfl, FR.r sh V⟩
end M74
