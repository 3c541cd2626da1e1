section M50
/-! ===== the reference: the other questions ===== -/
theorem RFL.cg {V W : hV} {n : Nat} (e : W.1 313 = V.1 313) (h : RFL V n) : RFL W n := by
  intro p w hp hw hh
  rw [e] at hh ⊢
  exact h p w hp hw hh
theorem ask_313 {V : hV} {n f b k : Nat} : (askF V n f b k).1 313 = V.1 313 := funext fun j => askF_ne V n f b (by decide) j k
theorem SG.cg {V W : hV} {n nf rw : Nat} (e : W.1 313 = V.1 313) (h : SG V n nf rw) : SG W n nf rw := by
  unfold SG
  rw [e]
  exact h
theorem bes_le2 {V : hV} {n : Nat} (s : Int32) : bes V n s = s ∨ mm_un s < mm_un (bes V n s) := by
  by_cases e : bes V n s = s
  · exact Or.inl e
  · have h1 : mm_un s ≤ mm_un (bes V n s) := besF_le V n s 32
    have h2 : mm_un (bes V n s) ≠ mm_un s := fun q => e (un_inj q)
    exact Or.inr (by omega)
theorem l_steps {S : ww_S} {sh : List mm_C} {V W : hV} (hM : MS sh) {n : Nat} (hn : W.1 313 1 = Int32.ofNat n) (h5 : n ≤ 5) (fq : FrQ V W) : ∀ (m : Nat) (x1 x2 set was c : Int32), 4294967296 ≤ mm_un set + m → WP S 7 mm_m265 47 [some (.ref 312), some (.int x1), some (.int x2), some (.int set), some (.int was), some (.int c)] [] (hH sh W) (qI sh V) := by
  have E0 : ∀ x1 x2 set c : Int32, WP S 7 mm_m265 47 [some (.ref 312), some (.int x1), some (.int x2), some (.int set), some (.int set), some (.int c)] [] (hH sh W) (qI sh V) := by
    intro x1 x2 set c
    refine wp_iload_n k265_47 rfl rfl ?_
    refine wp_iload k265_48 rfl rfl ?_
    refine wp_if_icmp_eq_T k265_50 rfl ?_
    refine wp_iconst (-1) k265_79 (by decide) ?_
    exact wp_retI k265_80 rfl ⟨_, _, rfl, rfl, fq⟩
  intro m
  induction m with
  | zero =>
    intro x1 x2 set was c hm
    exact absurd (mm_un_lt set) (by omega)
  | succ m ih =>
    intro x1 x2 set was c hm
    rcases bes_le2 (V := W) (n := n) set with e | e
    · skip
      refine wp_iload_n k265_47 rfl rfl ?_
      refine wp_iload k265_48 rfl rfl ?_
      refine wp_if_icmp_eq k265_50 (fun c50 => ?_) (fun c50 => ?_)
      · refine wp_iconst (-1) k265_79 (by decide) ?_
        exact wp_retI k265_80 rfl ⟨_, _, rfl, rfl, fq⟩
      · refine wp_iload_n k265_53 rfl rfl ?_
        refine wp_iload_n k265_54 rfl rfl ?_
        refine wp_cs (st2 := []) k265_55 (e_has) (by decide) rfl rfl rfl (by decide) ?_
        refine wp_if_eq k265_58 (fun c58 => ?_) (fun c58 => ?_)
        · refine wp_iload_n k265_64 rfl rfl ?_
          refine wp_istore (L1 := [_, _, _, _, _, _]) k265_65 rfl rfl ?_
          refine wp_aload_n k265_67 rfl rfl ?_
          refine wp_iload_n k265_68 rfl rfl ?_
          refine wp_cv (st2 := []) k265_69 (e_beside hM (by exact hn) h5) (by decide) rfl rfl rfl rfl (by decide) hM.o (by decide) ?_
          refine wp_istore_n (L1 := [_, _, _, _, _, _]) k265_72 rfl rfl ?_
          refine wp_iinc (L1 := [_, _, _, _, _, _]) 1 k265_73 rfl (by decide) rfl ?_
          refine wp_goto k265_76 ?_
          rw [e]
          exact E0 _ _ _ _
        · refine wp_iload k265_61 rfl rfl ?_
          exact wp_retI k265_63 rfl ⟨_, _, rfl, rfl, fq⟩
    · skip
      refine wp_iload_n k265_47 rfl rfl ?_
      refine wp_iload k265_48 rfl rfl ?_
      refine wp_if_icmp_eq k265_50 (fun c50 => ?_) (fun c50 => ?_)
      · refine wp_iconst (-1) k265_79 (by decide) ?_
        exact wp_retI k265_80 rfl ⟨_, _, rfl, rfl, fq⟩
      · refine wp_iload_n k265_53 rfl rfl ?_
        refine wp_iload_n k265_54 rfl rfl ?_
        refine wp_cs (st2 := []) k265_55 (e_has) (by decide) rfl rfl rfl (by decide) ?_
        refine wp_if_eq k265_58 (fun c58 => ?_) (fun c58 => ?_)
        · refine wp_iload_n k265_64 rfl rfl ?_
          refine wp_istore (L1 := [_, _, _, _, _, _]) k265_65 rfl rfl ?_
          refine wp_aload_n k265_67 rfl rfl ?_
          refine wp_iload_n k265_68 rfl rfl ?_
          refine wp_cv (st2 := []) k265_69 (e_beside hM (by exact hn) h5) (by decide) rfl rfl rfl rfl (by decide) hM.o (by decide) ?_
          refine wp_istore_n (L1 := [_, _, _, _, _, _]) k265_72 rfl rfl ?_
          refine wp_iinc (L1 := [_, _, _, _, _, _]) 1 k265_73 rfl (by decide) rfl ?_
          refine wp_goto k265_76 ?_
          exact ih _ _ _ _ _ (by omega)
        · refine wp_iload k265_61 rfl rfl ?_
          exact wp_retI k265_63 rfl ⟨_, _, rfl, rfl, fq⟩
theorem q_steps {S : ww_S} {sh : List mm_C} {V : hV} (hM : MS sh) {n nf rw : Nat} (hS : SG V n nf rw) {x y : Int32} : EVQ S 8 265 [.ref 312, .int x, .int y] (hH sh V) (qI sh V) := by
  obtain ⟨hn, h5, hnf, h5f, hrw, h32⟩ := hS
  refine ev_of P265 rfl ?_
  by_cases hb : inI x 0 (1 <<< (V.1 313 0 &&& 31) - 1) = true
  · by_cases hb2 : inI y 0 (1 <<< (V.1 313 0 &&& 31) - 1) = true
    · skip
      refine wp_aload_n k265_0 rfl rfl ?_
      refine wp_aload_n k265_1 rfl rfl ?_
      refine wp_iload_n k265_2 rfl rfl ?_
      refine wp_cv (st2 := [_]) k265_3 (e_isWorld hM) (by decide) rfl rfl rfl rfl (by decide) hM.o (by decide) ?_
      refine wp_if_eq_F k265_6 (bI_n0.mpr hb) ?_
      refine wp_aload_n k265_9 rfl rfl ?_
      refine wp_iload_n k265_10 rfl rfl ?_
      refine wp_cv (st2 := [_]) k265_11 (e_isWorld hM) (by decide) rfl rfl rfl rfl (by decide) hM.o (by decide) ?_
      refine wp_if_eq_F k265_14 (bI_n0.mpr hb2) ?_
      refine wp_iconst 1 k265_17 (by decide) ?_
      refine wp_goto k265_18 ?_
      refine wp_cv (st2 := []) k265_22 (e_passes hM (b := true)) (by decide) rfl rfl rfl rfl (by decide) hM.o (by decide) ?_
      refine wp_if_ne_T k265_25 (by decide) ?_
      refine wp_aload_n k265_30 rfl rfl ?_
      refine wp_getR k265_31 (by decide) hM.o rfl ?_
      refine wp_iconst 2 k265_34 (by decide) ?_
      refine wp_iaload k265_35 (by decide) (hM.a313) (by decide) 2 (by decide) _ rfl ?_
      refine wp_iconst 1 k265_36 (by decide) ?_
      refine wp_iload_n k265_37 rfl rfl ?_
      refine wp_ishl k265_38 ?_
      refine wp_iand k265_39 ?_
      refine wp_istore_n (L1 := [_, _, _, _, _, _]) k265_40 rfl rfl ?_
      refine wp_iconst 0 k265_41 (by decide) ?_
      refine wp_istore (L1 := [_, _, _, _, _, _]) k265_42 rfl rfl ?_
      refine wp_iconst 0 k265_44 (by decide) ?_
      refine wp_istore (L1 := [_, _, _, _, _, _]) k265_45 rfl rfl ?_
      exact l_steps (S := S) (V := V) hM (W := up V 312 6 _) hn h5 fq_6 4294967296 _ _ _ _ _ (by omega)
    · skip
      refine wp_aload_n k265_0 rfl rfl ?_
      refine wp_aload_n k265_1 rfl rfl ?_
      refine wp_iload_n k265_2 rfl rfl ?_
      refine wp_cv (st2 := [_]) k265_3 (e_isWorld hM) (by decide) rfl rfl rfl rfl (by decide) hM.o (by decide) ?_
      refine wp_if_eq_F k265_6 (bI_n0.mpr hb) ?_
      refine wp_aload_n k265_9 rfl rfl ?_
      refine wp_iload_n k265_10 rfl rfl ?_
      refine wp_cv (st2 := [_]) k265_11 (e_isWorld hM) (by decide) rfl rfl rfl rfl (by decide) hM.o (by decide) ?_
      refine wp_if_eq_T k265_14 (bI_0.mpr (Bool.eq_false_iff.mpr hb2)) ?_
      refine wp_iconst 0 k265_21 (by decide) ?_
      refine wp_cv (st2 := []) k265_22 (e_passes hM (b := false)) (by decide) rfl rfl rfl rfl (by decide) hM.o (by decide) ?_
      refine wp_if_ne_F k265_25 rfl ?_
      refine wp_iconst 0 k265_28 (by decide) ?_
      exact wp_retI k265_29 rfl ⟨_, _, rfl, rfl, (by first | exact fq_6 | exact fq_6.t fq_ask | exact fq_ask | exact FrQ.r _ | exact (fq_6.t fq_8) | exact fq_8)⟩
  · skip
    refine wp_aload_n k265_0 rfl rfl ?_
    refine wp_aload_n k265_1 rfl rfl ?_
    refine wp_iload_n k265_2 rfl rfl ?_
    refine wp_cv (st2 := [_]) k265_3 (e_isWorld hM) (by decide) rfl rfl rfl rfl (by decide) hM.o (by decide) ?_
    refine wp_if_eq_T k265_6 (bI_0.mpr (Bool.eq_false_iff.mpr hb)) ?_
    refine wp_iconst 0 k265_21 (by decide) ?_
    refine wp_cv (st2 := []) k265_22 (e_passes hM (b := false)) (by decide) rfl rfl rfl rfl (by decide) hM.o (by decide) ?_
    refine wp_if_ne_F k265_25 rfl ?_
    refine wp_iconst 0 k265_28 (by decide) ?_
    exact wp_retI k265_29 rfl ⟨_, _, rfl, rfl, (by first | exact fq_6 | exact fq_6.t fq_ask | exact fq_ask | exact FrQ.r _ | exact (fq_6.t fq_8) | exact fq_8)⟩
theorem l_level {S : ww_S} {sh : List mm_C} {V W : hV} (hM : MS sh) {n : Nat} (hn : W.1 313 1 = Int32.ofNat n) (h5 : n ≤ 5) (fq : FrQ V W) {nf rw : Nat} (hS : SG W n nf rw) (hR : RFL W n) : ∀ (m : Nat) (set c : Int32), mm_un (kba W set n) < m → WP S 11 mm_m271 33 [some (.ref 312), some (.int set), some (.int c), some (.int (kba W set n))] [] (hH sh W) (qI sh V) := by
  obtain ⟨_, _, hnf, h5f, hrw, h32⟩ := hS
  intro m
  induction m with
  | zero =>
    intro set c hm
    exact absurd hm (Nat.not_lt_zero _)
  | succ m ih =>
    intro set c hm
    by_cases e : kba W set n = set
    · skip
      refine wp_iload_n k271_33 rfl rfl ?_
      refine wp_iload_n k271_34 rfl rfl ?_
      refine wp_if_icmp_eq_T k271_35 e ?_
      refine wp_bipush 99 k271_67 (by decide) ?_
      exact wp_retI k271_69 rfl ⟨_, _, rfl, rfl, fq⟩
    · have E0 : ∀ c : Int32, WP S 11 mm_m271 33 [some (.ref 312), some (.int (kba W set n)), some (.int c), some (.int (kba W (kba W set n) n))] [] (hH sh W) (qI sh V) := by
        intro c
        rcases kba_next hR set with e2 | e2
        · skip
          refine wp_iload_n k271_33 rfl rfl ?_
          refine wp_iload_n k271_34 rfl rfl ?_
          refine wp_if_icmp_eq_T k271_35 e2 ?_
          refine wp_bipush 99 k271_67 (by decide) ?_
          exact wp_retI k271_69 rfl ⟨_, _, rfl, rfl, fq⟩
        · exact ih (kba W set n) c (by omega)
      refine wp_iload_n k271_33 rfl rfl ?_
      refine wp_iload_n k271_34 rfl rfl ?_
      refine wp_if_icmp_eq_F k271_35 e ?_
      refine wp_iload_n k271_38 rfl rfl ?_
      refine wp_aload_n k271_39 rfl rfl ?_
      refine wp_getR k271_40 (by decide) hM.o rfl ?_
      refine wp_iconst 4 k271_43 (by decide) ?_
      refine wp_iaload k271_44 (by decide) (hM.a313) (by decide) 4 (by decide) (Int32.ofNat rw) hrw ?_
      refine wp_cs (st2 := []) k271_45 (e_has) (by decide) rfl rfl rfl (by decide) ?_
      refine wp_if_ne k271_48 (fun c48 => ?_) (fun c48 => ?_)
      · refine wp_iinc (L1 := [_, _, _, _]) 1 k271_53 rfl (by decide) rfl ?_
        refine wp_iload_n k271_56 rfl rfl ?_
        refine wp_istore_n (L1 := [_, _, _, _]) k271_57 rfl rfl ?_
        refine wp_aload_n k271_58 rfl rfl ?_
        refine wp_iload_n k271_59 rfl rfl ?_
        refine wp_cv (st2 := []) k271_60 (e_knownByAll hM (by exact hn) h5) (by decide) rfl rfl rfl rfl (by decide) hM.o (by decide) ?_
        refine wp_istore_n (L1 := [_, _, _, _]) k271_63 rfl rfl ?_
        refine wp_goto k271_64 ?_
        exact E0 _
      · refine wp_iload_n k271_51 rfl rfl ?_
        exact wp_retI k271_52 rfl ⟨_, _, rfl, rfl, fq⟩
theorem l_unlike {S : ww_S} {sh : List mm_C} {V W : hV} (hM : MS sh) {n : Nat} (hn : W.1 313 1 = Int32.ofNat n) (h5 : n ≤ 5) (fq : FrQ V W) {nf rw : Nat} (hS : SG W n nf rw) (hR : RFL W n) : ∀ (m : Nat) (q set : Int32), mm_un (kba W set n) < m → WP S 11 mm_m272 18 [some (.ref 312), some (.int q), some (.int set), some (.int (kba W set n))] [] (hH sh W) (qI sh V) := by
  obtain ⟨_, _, hnf, h5f, hrw, h32⟩ := hS
  intro m
  induction m with
  | zero =>
    intro q set hm
    exact absurd hm (Nat.not_lt_zero _)
  | succ m ih =>
    intro q set hm
    by_cases e : kba W set n = set
    · skip
      refine wp_iload_n k272_18 rfl rfl ?_
      refine wp_iload_n k272_19 rfl rfl ?_
      refine wp_if_icmp_eq_T k272_20 e ?_
      refine wp_iload_n k272_34 rfl rfl ?_
      refine wp_aload_n k272_35 rfl rfl ?_
      refine wp_iload_n k272_36 rfl rfl ?_
      refine wp_cv (st2 := [_]) k272_37 (e_commonOf hM (by exact hn) h5) (by decide) rfl rfl rfl rfl (by decide) hM.o (by decide) ?_
      refine wp_ixor k272_40 ?_
      refine wp_cs (st2 := []) k272_41 (e_bits) (by decide) rfl rfl rfl (by decide) ?_
      exact wp_retI k272_44 rfl ⟨_, _, rfl, rfl, fq⟩
    · have E0 : ∀ q : Int32, WP S 11 mm_m272 18 [some (.ref 312), some (.int q), some (.int (kba W set n)), some (.int (kba W (kba W set n) n))] [] (hH sh W) (qI sh V) := by
        intro q
        rcases kba_next hR set with e2 | e2
        · skip
          refine wp_iload_n k272_18 rfl rfl ?_
          refine wp_iload_n k272_19 rfl rfl ?_
          refine wp_if_icmp_eq_T k272_20 e2 ?_
          refine wp_iload_n k272_34 rfl rfl ?_
          refine wp_aload_n k272_35 rfl rfl ?_
          refine wp_iload_n k272_36 rfl rfl ?_
          refine wp_cv (st2 := [_]) k272_37 (e_commonOf hM (by exact hn) h5) (by decide) rfl rfl rfl rfl (by decide) hM.o (by decide) ?_
          refine wp_ixor k272_40 ?_
          refine wp_cs (st2 := []) k272_41 (e_bits) (by decide) rfl rfl rfl (by decide) ?_
          exact wp_retI k272_44 rfl ⟨_, _, rfl, rfl, fq⟩
        · exact ih q (kba W set n) (by omega)
      refine wp_iload_n k272_18 rfl rfl ?_
      refine wp_iload_n k272_19 rfl rfl ?_
      refine wp_if_icmp_eq_F k272_20 e ?_
      refine wp_iload_n k272_23 rfl rfl ?_
      refine wp_istore_n (L1 := [_, _, _, _]) k272_24 rfl rfl ?_
      refine wp_aload_n k272_25 rfl rfl ?_
      refine wp_iload_n k272_26 rfl rfl ?_
      refine wp_cv (st2 := []) k272_27 (e_knownByAll hM (by exact hn) h5) (by decide) rfl rfl rfl rfl (by decide) hM.o (by decide) ?_
      refine wp_istore_n (L1 := [_, _, _, _]) k272_30 rfl rfl ?_
      refine wp_goto k272_31 ?_
      exact E0 _
theorem q_level {S : ww_S} {sh : List mm_C} {V : hV} (hM : MS sh) {n nf rw : Nat} (hS : SG V n nf rw) {m : Nat} (hF : FOK V n 313 320 m) (hR : RFL V n) : EVQ S 12 271 [.ref 312] (hH sh V) (qI sh V) := by
  obtain ⟨hn, h5, hnf, h5f, hrw, h32⟩ := hS
  refine ev_of P271 rfl ?_
  refine wp_aload_n k271_0 rfl rfl ?_
  refine wp_iconst 0 k271_1 (by decide) ?_
  refine wp_putI k271_2 (by decide) hM.o rfl rfl rfl ?_
  refine wp_aload_n k271_5 rfl rfl ?_
  refine wp_cv (st2 := []) k271_6 (e_question hM (by first | exact hn | exact (askF_ne _ _ _ _ (by decide) _ _).trans hn) h5 (by exact hF)) (by decide) rfl rfl rfl rfl (by decide) hM.o (by decide) ?_
  refine wp_istore_n (L1 := [_, _, _, _]) k271_9 rfl rfl ?_
  refine wp_iload_n k271_10 rfl rfl ?_
  refine wp_aload_n k271_11 rfl rfl ?_
  refine wp_getR k271_12 (by decide) hM.o rfl ?_
  refine wp_iconst 4 k271_15 (by decide) ?_
  refine wp_iaload k271_16 (by decide) (hM.a313) (by decide) 4 (by decide) (Int32.ofNat rw) (by first | exact hrw | exact (askF_ne _ _ _ _ (by decide) _ _).trans hrw) ?_
  refine wp_cs (st2 := []) k271_17 (e_has) (by decide) rfl rfl rfl (by decide) ?_
  refine wp_if_ne k271_20 (fun c20 => ?_) (fun c20 => ?_)
  · refine wp_iconst 0 k271_25 (by decide) ?_
    refine wp_istore_n (L1 := [_, _, _, _]) k271_26 rfl rfl ?_
    refine wp_aload_n k271_27 rfl rfl ?_
    refine wp_iload_n k271_28 rfl rfl ?_
    refine wp_cv (st2 := []) k271_29 (e_knownByAll hM (by first | exact hn | exact (askF_ne _ _ _ _ (by decide) _ _).trans hn) h5) (by decide) rfl rfl rfl rfl (by decide) hM.o (by decide) ?_
    refine wp_istore_n (L1 := [_, _, _, _]) k271_32 rfl rfl ?_
    exact l_level (S := S) (V := V) hM (W := askF (up V 312 6 0) n 313 320 m) ((congrFun ask_313 1).trans hn) h5 (fq_6.t fq_ask) (SG.cg ask_313 ⟨hn, h5, hnf, h5f, hrw, h32⟩) (hR.cg ask_313) _ _ _ (Nat.lt_succ_self _)
  · refine wp_iconst (-1) k271_23 (by decide) ?_
    exact wp_retI k271_24 rfl ⟨_, _, rfl, rfl, (by first | exact fq_6 | exact fq_6.t fq_ask | exact fq_ask | exact FrQ.r _ | exact (fq_6.t fq_8) | exact fq_8)⟩
theorem q_unlike {S : ww_S} {sh : List mm_C} {V : hV} (hM : MS sh) {n nf rw : Nat} (hS : SG V n nf rw) {m : Nat} (hF : FOK V n 313 320 m) (hR : RFL V n) : EVQ S 12 272 [.ref 312] (hH sh V) (qI sh V) := by
  obtain ⟨hn, h5, hnf, h5f, hrw, h32⟩ := hS
  refine ev_of P272 rfl ?_
  refine wp_aload_n k272_0 rfl rfl ?_
  refine wp_iconst 0 k272_1 (by decide) ?_
  refine wp_putI k272_2 (by decide) hM.o rfl rfl rfl ?_
  refine wp_aload_n k272_5 rfl rfl ?_
  refine wp_cv (st2 := []) k272_6 (e_question hM (by first | exact hn | exact (askF_ne _ _ _ _ (by decide) _ _).trans hn) h5 (by exact hF)) (by decide) rfl rfl rfl rfl (by decide) hM.o (by decide) ?_
  refine wp_istore_n (L1 := [_, _, _, _]) k272_9 rfl rfl ?_
  refine wp_iload_n k272_10 rfl rfl ?_
  refine wp_istore_n (L1 := [_, _, _, _]) k272_11 rfl rfl ?_
  refine wp_aload_n k272_12 rfl rfl ?_
  refine wp_iload_n k272_13 rfl rfl ?_
  refine wp_cv (st2 := []) k272_14 (e_knownByAll hM (by first | exact hn | exact (askF_ne _ _ _ _ (by decide) _ _).trans hn) h5) (by decide) rfl rfl rfl rfl (by decide) hM.o (by decide) ?_
  refine wp_istore_n (L1 := [_, _, _, _]) k272_17 rfl rfl ?_
  exact l_unlike (S := S) (V := V) hM (W := askF (up V 312 6 0) n 313 320 m) ((congrFun ask_313 1).trans hn) h5 (fq_6.t fq_ask) (SG.cg ask_313 ⟨hn, h5, hnf, h5f, hrw, h32⟩) (hR.cg ask_313) _ _ _ (Nat.lt_succ_self _)
theorem q_knowsFact {S : ww_S} {sh : List mm_C} {V : hV} (hM : MS sh) {n nf rw : Nat} (hS : SG V n nf rw) {x y : Int32} : EVQ S 6 273 [.ref 312, .int x, .int y] (hH sh V) (qI sh V) := by
  obtain ⟨hn, h5, hnf, h5f, hrw, h32⟩ := hS
  refine ev_of P273 rfl ?_
  by_cases hb : inI x 0 (V.1 313 1 - 1) = true
  · obtain ⟨k, hk, _, he⟩ := pe_of hn h5 hb
    by_cases hb2 : inI y 0 (V.1 313 0 - 1) = true
    · subst he
      refine wp_aload_n k273_0 rfl rfl ?_
      refine wp_aload_n k273_1 rfl rfl ?_
      refine wp_iload_n k273_2 rfl rfl ?_
      refine wp_cv (st2 := [_]) k273_3 (e_isPerson hM) (by decide) rfl rfl rfl rfl (by decide) hM.o (by decide) ?_
      refine wp_if_eq_F k273_6 (bI_n0.mpr hb) ?_
      refine wp_aload_n k273_9 rfl rfl ?_
      refine wp_iload_n k273_10 rfl rfl ?_
      refine wp_cv (st2 := [_]) k273_11 (e_isFact hM) (by decide) rfl rfl rfl rfl (by decide) hM.o (by decide) ?_
      refine wp_if_eq_F k273_14 (bI_n0.mpr hb2) ?_
      refine wp_iconst 1 k273_17 (by decide) ?_
      refine wp_goto k273_18 ?_
      refine wp_cv (st2 := []) k273_22 (e_passes hM (b := true)) (by decide) rfl rfl rfl rfl (by decide) hM.o (by decide) ?_
      refine wp_if_ne_T k273_25 (by decide) ?_
      refine wp_aload_n k273_30 rfl rfl ?_
      refine wp_iload_n k273_31 rfl rfl ?_
      refine wp_aload_n k273_32 rfl rfl ?_
      refine wp_getR k273_33 (by decide) hM.o rfl ?_
      refine wp_iconst 4 k273_36 (by decide) ?_
      refine wp_iaload k273_37 (by decide) (hM.a313) (by decide) 4 (by decide) (Int32.ofNat rw) hrw ?_
      refine wp_cv (st2 := []) k273_38 (e_alikeTo hM (p := k) (w := rw) (by omega) (by omega)) (by decide) rfl rfl rfl rfl (by decide) hM.o (by decide) ?_
      refine wp_istore_n (L1 := [_, _, _, _, _]) k273_41 rfl rfl ?_
      refine wp_iload_n k273_42 rfl rfl ?_
      refine wp_cs (st2 := []) k273_43 (e_worldsOf) (by decide) rfl rfl rfl (by decide) ?_
      refine wp_istore (L1 := [_, _, _, _, _]) k273_46 rfl rfl ?_
      refine wp_iload_n k273_48 rfl rfl ?_
      refine wp_iload k273_49 rfl rfl ?_
      refine wp_iconst (-1) k273_51 (by decide) ?_
      refine wp_ixor k273_52 ?_
      refine wp_iand k273_53 ?_
      refine wp_if_ne k273_54 (fun c54 => ?_) (fun c54 => ?_)
      · refine wp_iload_n k273_61 rfl rfl ?_
        refine wp_iload k273_62 rfl rfl ?_
        refine wp_iand k273_64 ?_
        refine wp_if_ne k273_65 (fun c65 => ?_) (fun c65 => ?_)
        · refine wp_iconst (-1) k273_72 (by decide) ?_
          exact wp_retI k273_73 rfl ⟨_, _, rfl, rfl, (by first | exact fq_6 | exact fq_6.t fq_ask | exact fq_ask | exact FrQ.r _ | exact (fq_6.t fq_8) | exact fq_8)⟩
        · refine wp_iconst 0 k273_68 (by decide) ?_
          refine wp_goto k273_69 ?_
          exact wp_retI k273_73 rfl ⟨_, _, rfl, rfl, (by first | exact fq_6 | exact fq_6.t fq_ask | exact fq_ask | exact FrQ.r _ | exact (fq_6.t fq_8) | exact fq_8)⟩
      · refine wp_iconst 1 k273_57 (by decide) ?_
        refine wp_goto k273_58 ?_
        exact wp_retI k273_73 rfl ⟨_, _, rfl, rfl, (by first | exact fq_6 | exact fq_6.t fq_ask | exact fq_ask | exact FrQ.r _ | exact (fq_6.t fq_8) | exact fq_8)⟩
    · skip
      refine wp_aload_n k273_0 rfl rfl ?_
      refine wp_aload_n k273_1 rfl rfl ?_
      refine wp_iload_n k273_2 rfl rfl ?_
      refine wp_cv (st2 := [_]) k273_3 (e_isPerson hM) (by decide) rfl rfl rfl rfl (by decide) hM.o (by decide) ?_
      refine wp_if_eq_F k273_6 (bI_n0.mpr hb) ?_
      refine wp_aload_n k273_9 rfl rfl ?_
      refine wp_iload_n k273_10 rfl rfl ?_
      refine wp_cv (st2 := [_]) k273_11 (e_isFact hM) (by decide) rfl rfl rfl rfl (by decide) hM.o (by decide) ?_
      refine wp_if_eq_T k273_14 (bI_0.mpr (Bool.eq_false_iff.mpr hb2)) ?_
      refine wp_iconst 0 k273_21 (by decide) ?_
      refine wp_cv (st2 := []) k273_22 (e_passes hM (b := false)) (by decide) rfl rfl rfl rfl (by decide) hM.o (by decide) ?_
      refine wp_if_ne_F k273_25 (by decide) ?_
      refine wp_iconst 0 k273_28 (by decide) ?_
      exact wp_retI k273_29 rfl ⟨_, _, rfl, rfl, (by first | exact fq_6 | exact fq_6.t fq_ask | exact fq_ask | exact FrQ.r _ | exact (fq_6.t fq_8) | exact fq_8)⟩
  · skip
    refine wp_aload_n k273_0 rfl rfl ?_
    refine wp_aload_n k273_1 rfl rfl ?_
    refine wp_iload_n k273_2 rfl rfl ?_
    refine wp_cv (st2 := [_]) k273_3 (e_isPerson hM) (by decide) rfl rfl rfl rfl (by decide) hM.o (by decide) ?_
    refine wp_if_eq_T k273_6 (bI_0.mpr (Bool.eq_false_iff.mpr hb)) ?_
    refine wp_iconst 0 k273_21 (by decide) ?_
    refine wp_cv (st2 := []) k273_22 (e_passes hM (b := false)) (by decide) rfl rfl rfl rfl (by decide) hM.o (by decide) ?_
    refine wp_if_ne_F k273_25 (by decide) ?_
    refine wp_iconst 0 k273_28 (by decide) ?_
    exact wp_retI k273_29 rfl ⟨_, _, rfl, rfl, (by first | exact fq_6 | exact fq_6.t fq_ask | exact fq_ask | exact FrQ.r _ | exact (fq_6.t fq_8) | exact fq_8)⟩
theorem e_knowersNow {S : ww_S} {sh : List mm_C} {W : hV} (hM : MS sh) {n : Nat} (hn : W.1 313 1 = Int32.ofNat n) (h5 : n ≤ 5) {rw : Nat} (hrw : W.1 313 4 = Int32.ofNat rw) (h32 : rw < 32) : ∃ x, EV S 5 274 [.ref 312] (hH sh W) (.inl (some (.int x))) (hH sh W) := by
  have EQ := e_persons (S := S) (V := W) hM
  rw [hn] at EQ
  have key : ∀ (g i : Nat) (x : Int32), g + i = n → WP S 4 mm_m274 4 [some (.ref 312), some (.int x), some (.int (Int32.ofNat i))] [] (hH sh W) (fun v g => ∃ x : Int32, v = .inl (some (.int x)) ∧ g = hH sh W) := by
    intro g
    induction g with
    | zero =>
      intro i x hi
      have hi : n = i := by omega
      subst hi
      refine wp_iload_n k274_4 rfl rfl ?_
      refine wp_aload_n k274_5 rfl rfl ?_
      refine wp_cv (st2 := [_]) k274_6 EQ (by decide) rfl rfl rfl rfl (by decide) hM.o (by decide) ?_
      refine wp_if_icmp_ge_T k274_9 (i_nlt (Nat.le_refl _) (by omega)) ?_
      refine wp_iload_n k274_53 rfl rfl ?_
      exact wp_retI k274_54 rfl ⟨_, rfl, rfl⟩
    | succ g ih =>
      intro i x hi
      refine wp_iload_n k274_4 rfl rfl ?_
      refine wp_aload_n k274_5 rfl rfl ?_
      refine wp_cv (st2 := [_]) k274_6 EQ (by decide) rfl rfl rfl rfl (by decide) hM.o (by decide) ?_
      refine wp_if_icmp_ge_F k274_9 (i_lt (by omega) (by omega)) ?_
      refine wp_iload_n k274_12 rfl rfl ?_
      refine wp_aload_n k274_13 rfl rfl ?_
      refine wp_iload_n k274_14 rfl rfl ?_
      refine wp_aload_n k274_15 rfl rfl ?_
      refine wp_getR k274_16 (by decide) hM.o rfl ?_
      refine wp_iconst 4 k274_19 (by decide) ?_
      refine wp_iaload k274_20 (by decide) (hM.a313) (by decide) 4 (by decide) (Int32.ofNat rw) hrw ?_
      refine wp_cv (st2 := [_]) k274_21 (e_alikeTo hM (p := i) (w := rw) (by omega) (by omega)) (by decide) rfl rfl rfl rfl (by decide) hM.o (by decide) ?_
      refine wp_iconst 1 k274_24 (by decide) ?_
      refine wp_aload_n k274_25 rfl rfl ?_
      refine wp_getR k274_26 (by decide) hM.o rfl ?_
      refine wp_iconst 4 k274_29 (by decide) ?_
      refine wp_iaload k274_30 (by decide) (hM.a313) (by decide) 4 (by decide) (Int32.ofNat rw) hrw ?_
      refine wp_ishl k274_31 ?_
      refine wp_if_icmp_ne k274_32 (fun c32 => ?_) (fun c32 => ?_)
      · refine wp_iconst 0 k274_39 (by decide) ?_
        refine wp_cs (st2 := [_]) k274_40 (e_truth) (by decide) rfl rfl rfl (by decide) ?_
        refine wp_iload_n k274_43 rfl rfl ?_
        refine wp_ishl k274_44 ?_
        refine wp_ior k274_45 ?_
        refine wp_istore_n (L1 := [_, _, _]) k274_46 rfl rfl ?_
        refine wp_iinc (L1 := [_, _, _]) 1 k274_47 rfl (by decide) rfl ?_
        refine wp_goto k274_50 ?_
        rw [i_succ]
        exact ih (i + 1) _ (by omega)
      · refine wp_iconst 1 k274_35 (by decide) ?_
        refine wp_goto k274_36 ?_
        refine wp_cs (st2 := [_]) k274_40 (e_truth) (by decide) rfl rfl rfl (by decide) ?_
        refine wp_iload_n k274_43 rfl rfl ?_
        refine wp_ishl k274_44 ?_
        refine wp_ior k274_45 ?_
        refine wp_istore_n (L1 := [_, _, _]) k274_46 rfl rfl ?_
        refine wp_iinc (L1 := [_, _, _]) 1 k274_47 rfl (by decide) rfl ?_
        refine wp_goto k274_50 ?_
        rw [i_succ]
        exact ih (i + 1) _ (by omega)
  have E : EVQ S 5 274 [.ref 312] (hH sh W) (fun v g => ∃ x : Int32, v = .inl (some (.int x)) ∧ g = hH sh W) := by
    refine ev_of P274 rfl ?_
    refine wp_iconst 0 k274_0 (by decide) ?_
    refine wp_istore_n (L1 := [_, _, _]) k274_1 rfl rfl ?_
    refine wp_iconst 0 k274_2 (by decide) ?_
    refine wp_istore_n (L1 := [_, _, _]) k274_3 rfl rfl ?_
    exact key n 0 _ rfl
  obtain ⟨v, g, e, x, h1, h2⟩ := E
  subst h1 h2
  exact ⟨x, e⟩
theorem q_knowers {S : ww_S} {sh : List mm_C} {V : hV} (hM : MS sh) {n nf rw : Nat} (hS : SG V n nf rw) : EVQ S 6 275 [.ref 312] (hH sh V) (qI sh V) := by
  obtain ⟨hn, h5, hnf, h5f, hrw, h32⟩ := hS
  refine ev_of P275 rfl ?_
  refine wp_aload_n k275_0 rfl rfl ?_
  refine wp_iconst 0 k275_1 (by decide) ?_
  refine wp_putI k275_2 (by decide) hM.o rfl rfl rfl ?_
  refine wp_aload_n k275_5 rfl rfl ?_
  refine wp_cv (st2 := []) k275_6 (e_knowersNow (S := S) (W := up V 312 6 0) hM hn h5 hrw h32).choose_spec (by decide) rfl rfl rfl rfl (by decide) hM.o (by decide) ?_
  exact wp_retI k275_9 rfl ⟨_, _, rfl, rfl, (by first | exact fq_6 | exact fq_6.t fq_ask | exact fq_ask | exact FrQ.r _ | exact (fq_6.t fq_8) | exact fq_8)⟩
end M50
