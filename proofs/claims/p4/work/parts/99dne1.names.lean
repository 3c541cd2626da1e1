section N_e
/-! ===== the class, exactly: errors, words, names ===== -/
def erN (e c : Int32) : Int32 := if e = 0 then c else e
theorem SRC.T {sh : List mm_C} {V : hV} {f : Nat → Int32} {l p : Nat} {e : Int32} (h : SRC sh V f l p e) : SoT sh V f l := h.1
theorem SRC.S {sh : List mm_C} {V : hV} {f : Nat → Int32} {l p : Nat} {e : Int32} (h : SRC sh V f l p e) : kSrc sh := h.1.1
theorem SRC.o {sh : List mm_C} {V : hV} {f : Nat → Int32} {l p : Nat} {e : Int32} (h : SRC sh V f l p e) : sh[65 - 64]? = some (.inr (.inr (11, [.ref 66, .ref 67, .ref 68, .ref 69, .int 0, .int 0, .int 0, .int 0, .int 0, .int 0, .int 0, .int 0]))) := h.1.1.1.o
theorem SRC.p {sh : List mm_C} {V : hV} {f : Nat → Int32} {l p : Nat} {e : Int32} (h : SRC sh V f l p e) : p ≤ l ∧ l ≤ 600 := by
  obtain ⟨hT, n, i, hn, hi, h5, h6, hl, hp, hc⟩ := h
  exact ⟨hp ▸ tp_le f l i, hT.2.2.1⟩
theorem SRC.kd {sh : List mm_C} {V : hV} {f : Nat → Int32} {l p : Nat} {e : Int32} (h : SRC sh V f l p e) : V.1 65 7 = kdE f l p ∧ V.1 65 8 = Int32.ofNat p ∧ V.1 65 9 = nmE f l p ∧ V.1 65 10 = e := by
  obtain ⟨hT, n, i, hn, hi, h5, h6, hl, hp, hc, h7, h8, h9, h10⟩ := h
  exact ⟨h7, h8, h9, h10⟩
/-- the source's cells as they were -/
theorem SRC.fr {sh : List mm_C} {V W : hV} {f : Nat → Int32} {l p : Nat} {e : Int32} (h : SRC sh V f l p e) (g : ∀ b, 65 ≤ b → b ≤ 69 → W.1 b = V.1 b) : SRC sh W f l p e := by
  obtain ⟨hT, n, i, hn, hi, h5, h6, hl, hp, hc, h7, h8, h9, h10⟩ := h
  have g5 := g 65 (by decide) (by decide)
  refine ⟨⟨hT.1, (congrFun g5 4).trans hT.2.1, hT.2.2.1, (g 66 (by decide) (by decide)).trans hT.2.2.2⟩, n, i, hn, hi, (congrFun g5 5).trans h5, (congrFun g5 6).trans h6, hl, hp, fun q hq => ?_, (congrFun g5 7).trans h7, (congrFun g5 8).trans h8, (congrFun g5 9).trans h9, (congrFun g5 10).trans h10⟩
  obtain ⟨a1, a2, a3⟩ := hc q hq
  exact ⟨(congrFun (g 67 (by decide) (by decide)) q).trans a1, (congrFun (g 68 (by decide) (by decide)) q).trans a2, (congrFun (g 69 (by decide) (by decide)) q).trans a3⟩
/-- an error is laid down -/
theorem SRC.er {sh : List mm_C} {V : hV} {f : Nat → Int32} {l p : Nat} {e c x : Int32} (h : SRC sh V f l p e) : SRC sh (up (up V 65 10 c) 65 11 x) f l p c := by
  obtain ⟨hT, n, i, hn, hi, h5, h6, hl, hp, hc, h7, h8, h9, h10⟩ := h
  have g : ∀ k, k ≠ 10 → k ≠ 11 → (up (up V 65 10 c) 65 11 x).1 65 k = V.1 65 k := fun k a1 a2 => (up_ne _ _ (Or.inr a2)).trans (up_ne _ _ (Or.inr a1))
  have gn : ∀ b, b ≠ 65 → (up (up V 65 10 c) 65 11 x).1 b = V.1 b := fun b hb => (funext fun j => up_ne _ _ (Or.inl hb)).trans (funext fun j => up_ne _ _ (Or.inl hb))
  refine ⟨⟨hT.1, (g 4 (by decide) (by decide)).trans hT.2.1, hT.2.2.1, (gn 66 (by decide)).trans hT.2.2.2⟩, n, i, hn, hi, (g 5 (by decide) (by decide)).trans h5, (g 6 (by decide) (by decide)).trans h6, hl, hp, fun q hq => ?_, (g 7 (by decide) (by decide)).trans h7, (g 8 (by decide) (by decide)).trans h8, (g 9 (by decide) (by decide)).trans h9, (up_ne _ _ (Or.inr (by decide))).trans (up_eq _ _ _ _)⟩
  obtain ⟨a1, a2, a3⟩ := hc q hq
  exact ⟨(congrFun (gn 67 (by decide)) q).trans a1, (congrFun (gn 68 (by decide)) q).trans a2, (congrFun (gn 69 (by decide)) q).trans a3⟩
theorem s_fail {S : ww_S} {sh : List mm_C} {V : hV} {f : Nat → Int32} {l p : Nat} {e : Int32} (h : SRC sh V f l p e) {c x : Int32} : ∃ W, EV S 1 75 [.ref 65, .int c, .int x] (hH sh V) (.inl none) (hH sh W) ∧ SRC sh W f l p (erN e c) ∧ FrP V W := by
  have he := h.kd.2.2.2
  by_cases c0 : e = 0
  · refine ⟨up (up V 65 10 c) 65 11 x, ?_, ?_, fun b hb => (funext fun j => up_ne _ _ (Or.inl hb)).trans (funext fun j => up_ne _ _ (Or.inl hb))⟩
    · refine ev_qe P75 rfl ?_
      refine wp_aload_n k75_0 rfl rfl ?_
      refine wp_getI k75_1 h.S.1.h h.o rfl _ he ?_
      refine wp_if_ne_F k75_4 c0 ?_
      refine wp_aload_n k75_7 rfl rfl ?_
      refine wp_iload_n k75_8 rfl rfl ?_
      refine wp_putI k75_9 h.S.1.h h.o rfl rfl rfl ?_
      refine wp_aload_n k75_12 rfl rfl ?_
      refine wp_iload_n k75_13 rfl rfl ?_
      refine wp_putI k75_14 h.S.1.h h.o rfl rfl rfl ?_
      exact wp_retn k75_17 rfl rfl
    · unfold erN
      rw [if_pos c0]
      exact h.er
  · refine ⟨V, ?_, ?_, fun b hb => rfl⟩
    · refine ev_qe P75 rfl ?_
      refine wp_aload_n k75_0 rfl rfl ?_
      refine wp_getI k75_1 h.S.1.h h.o rfl _ he ?_
      refine wp_if_ne_T k75_4 c0 ?_
      exact wp_retn k75_17 rfl rfl
    · unfold erN
      rw [if_neg c0]
      exact h
theorem s_hasError {S : ww_S} {sh : List mm_C} {V : hV} {f : Nat → Int32} {l p : Nat} {e : Int32} (h : SRC sh V f l p e) : EV S 1 76 [.ref 65] (hH sh V) (.inl (some (.int (bI (!decide (e = 0)))))) (hH sh V) := by
  have he := h.kd.2.2.2
  refine ev_qe P76 rfl ?_
  refine wp_aload_n k76_0 rfl rfl ?_
  refine wp_getI k76_1 h.S.1.h h.o rfl _ he ?_
  by_cases c0 : e = 0
  · refine wp_if_eq_T k76_4 c0 ?_
    refine wp_iconst 0 k76_11 (by decide) ?_
    exact wp_retz k76_12 rfl (by rw [decide_eq_true c0]; rfl) rfl
  · refine wp_if_eq_F k76_4 c0 ?_
    refine wp_iconst 1 k76_7 (by decide) ?_
    refine wp_goto k76_8 ?_
    exact wp_retz k76_12 rfl (by rw [decide_eq_false c0]; rfl) rfl
theorem s_isWord {S : ww_S} {sh : List mm_C} {V : hV} {f : Nat → Int32} {l p : Nat} {e : Int32} (h : SRC sh V f l p e) {k n N : Nat} (hx : XS k n N) : EV S 6 77 [.ref 65, .ref k] (hH sh V) (.inl (some (.int (bI (spB f l p n N))))) (hH sh V) := by
  have hp := h.p
  refine ev_qe P77 rfl ?_
  refine wp_aload_n k77_0 rfl rfl ?_
  refine wp_aload_n k77_1 rfl rfl ?_
  refine wp_getI k77_2 h.S.1.h h.o rfl _ h.kd.2.1 ?_
  refine wp_aload_n k77_5 rfl rfl ?_
  refine wp_cv (st2 := []) k77_6 (s_spells h.T (by omega) hx) (by decide) rfl rfl rfl rfl (by decide) h.o (by decide) ?_
  exact wp_retz k77_9 rfl rfl rfl
theorem s_isName {S : ww_S} {sh : List mm_C} {V : hV} {f : Nat → Int32} {l p : Nat} {e : Int32} (h : SRC sh V f l p e) : EV S 1 78 [.ref 65] (hH sh V) (.inl (some (.int (bI (decide (kdE f l p = 256)))))) (hH sh V) := by
  refine ev_qe P78 rfl ?_
  refine wp_aload_n k78_0 rfl rfl ?_
  refine wp_getI k78_1 h.S.1.h h.o rfl _ h.kd.1 ?_
  refine wp_sipush 256 k78_4 (by decide) ?_
  by_cases c : kdE f l p = 256
  · refine wp_if_icmp_ne_F k78_7 c ?_
    refine wp_iconst 1 k78_10 (by decide) ?_
    refine wp_goto k78_11 ?_
    exact wp_retz k78_15 rfl (by rw [decide_eq_true c]; rfl) rfl
  · refine wp_if_icmp_ne_T k78_7 c ?_
    refine wp_iconst 0 k78_14 (by decide) ?_
    exact wp_retz k78_15 rfl (by rw [decide_eq_false c]; rfl) rfl
theorem s_takeWord {S : ww_S} {sh : List mm_C} {V : hV} {f : Nat → Int32} {l p : Nat} {e : Int32} (h : SRC sh V f l p e) {k n N : Nat} (hx : XS k n N) : ∃ W, EV S 7 79 [.ref 65, .ref k] (hH sh V) (.inl none) (hH sh W) ∧ SRC sh W f l (if spB f l p n N = true then nxE f l p else p) (if spB f l p n N = true then e else erN e 1) ∧ FrP V W := by
  by_cases c : spB f l p n N = true
  · obtain ⟨W, E, h2, h3⟩ := s_advance (S := S) h
    refine ⟨W, ?_, by rw [if_pos c, if_pos c]; exact h2, h3⟩
    have E1 := s_isWord (S := S) h hx
    rw [c] at E1
    refine ev_qe P79 rfl ?_
    refine wp_aload_n k79_0 rfl rfl ?_
    refine wp_aload_n k79_1 rfl rfl ?_
    refine wp_cv (st2 := []) k79_2 E1 (by decide) rfl rfl rfl rfl (by decide) h.o (by decide) ?_
    refine wp_if_eq_F k79_5 (by decide) ?_
    refine wp_aload_n k79_8 rfl rfl ?_
    refine wp_cvn (st2 := []) k79_9 E (by decide) rfl rfl rfl rfl (by decide) h.o (by decide) ?_
    refine wp_goto k79_12 ?_
    exact wp_retn k79_24 rfl rfl
  · obtain ⟨W, E, h2, h3⟩ := s_fail (S := S) h (c := 1) (x := Int32.ofNat p)
    refine ⟨W, ?_, by rw [if_neg c, if_neg c]; exact h2, h3⟩
    have E1 := s_isWord (S := S) h hx
    rw [Bool.eq_false_iff.mpr c] at E1
    refine ev_qe P79 rfl ?_
    refine wp_aload_n k79_0 rfl rfl ?_
    refine wp_aload_n k79_1 rfl rfl ?_
    refine wp_cv (st2 := []) k79_2 E1 (by decide) rfl rfl rfl rfl (by decide) h.o (by decide) ?_
    refine wp_if_eq_T k79_5 rfl ?_
    refine wp_aload_n k79_15 rfl rfl ?_
    refine wp_iconst 1 k79_16 (by decide) ?_
    refine wp_aload_n k79_17 rfl rfl ?_
    refine wp_getI k79_18 h.S.1.h h.o rfl _ h.kd.2.1 ?_
    refine wp_cvn (st2 := []) k79_21 E (by decide) rfl rfl rfl rfl (by decide) h.o (by decide) ?_
    exact wp_retn k79_24 rfl rfl
theorem s_take {S : ww_S} {sh : List mm_C} {V : hV} {f : Nat → Int32} {l p : Nat} {e : Int32} (h : SRC sh V f l p e) {c : Int32} : ∃ W, EV S 3 80 [.ref 65, .int c] (hH sh V) (.inl (some (.int (bI (decide (kdE f l p = c)))))) (hH sh W) ∧ SRC sh W f l (if kdE f l p = c then nxE f l p else p) (if kdE f l p = c then e else erN e 1) ∧ FrP V W := by
  by_cases c0 : kdE f l p = c
  · obtain ⟨W, E, h2, h3⟩ := s_advance (S := S) h
    refine ⟨W, ?_, by rw [if_pos c0, if_pos c0]; exact h2, h3⟩
    refine ev_qe P80 rfl ?_
    refine wp_aload_n k80_0 rfl rfl ?_
    refine wp_getI k80_1 h.S.1.h h.o rfl _ h.kd.1 ?_
    refine wp_iload_n k80_4 rfl rfl ?_
    refine wp_if_icmp_eq_T k80_5 c0 ?_
    refine wp_aload_n k80_19 rfl rfl ?_
    refine wp_cvn (st2 := []) k80_20 E (by decide) rfl rfl rfl rfl (by decide) h.o (by decide) ?_
    refine wp_iconst 1 k80_23 (by decide) ?_
    exact wp_retz k80_24 rfl (by rw [decide_eq_true c0]; rfl) rfl
  · obtain ⟨W, E, h2, h3⟩ := s_fail (S := S) h (c := 1) (x := Int32.ofNat p)
    refine ⟨W, ?_, by rw [if_neg c0, if_neg c0]; exact h2, h3⟩
    refine ev_qe P80 rfl ?_
    refine wp_aload_n k80_0 rfl rfl ?_
    refine wp_getI k80_1 h.S.1.h h.o rfl _ h.kd.1 ?_
    refine wp_iload_n k80_4 rfl rfl ?_
    refine wp_if_icmp_eq_F k80_5 c0 ?_
    refine wp_aload_n k80_8 rfl rfl ?_
    refine wp_iconst 1 k80_9 (by decide) ?_
    refine wp_aload_n k80_10 rfl rfl ?_
    refine wp_getI k80_11 h.S.1.h h.o rfl _ h.kd.2.1 ?_
    refine wp_cvn (st2 := []) k80_14 E (by decide) rfl rfl rfl rfl (by decide) h.o (by decide) ?_
    refine wp_iconst 0 k80_17 (by decide) ?_
    exact wp_retz k80_18 rfl (by rw [decide_eq_false c0]; rfl) rfl
theorem s_needEnd {S : ww_S} {sh : List mm_C} {V : hV} {f : Nat → Int32} {l p : Nat} {e : Int32} (h : SRC sh V f l p e) : ∃ W, EV S 3 81 [.ref 65] (hH sh V) (.inl none) (hH sh W) ∧ SRC sh W f l p (if kdE f l p = 267 then e else erN e 1) ∧ FrP V W := by
  by_cases c0 : kdE f l p = 267
  · refine ⟨V, ?_, by rw [if_pos c0]; exact h, fun b hb => rfl⟩
    refine ev_qe P81 rfl ?_
    refine wp_aload_n k81_0 rfl rfl ?_
    refine wp_getI k81_1 h.S.1.h h.o rfl _ h.kd.1 ?_
    refine wp_sipush 267 k81_4 (by decide) ?_
    refine wp_if_icmp_eq_T k81_7 c0 ?_
    exact wp_retn k81_19 rfl rfl
  · obtain ⟨W, E, h2, h3⟩ := s_fail (S := S) h (c := 1) (x := Int32.ofNat p)
    refine ⟨W, ?_, by rw [if_neg c0]; exact h2, h3⟩
    refine ev_qe P81 rfl ?_
    refine wp_aload_n k81_0 rfl rfl ?_
    refine wp_getI k81_1 h.S.1.h h.o rfl _ h.kd.1 ?_
    refine wp_sipush 267 k81_4 (by decide) ?_
    refine wp_if_icmp_eq_F k81_7 c0 ?_
    refine wp_aload_n k81_10 rfl rfl ?_
    refine wp_iconst 1 k81_11 (by decide) ?_
    refine wp_aload_n k81_12 rfl rfl ?_
    refine wp_getI k81_13 h.S.1.h h.o rfl _ h.kd.2.1 ?_
    refine wp_cvn (st2 := []) k81_16 E (by decide) rfl rfl rfl rfl (by decide) h.o (by decide) ?_
    exact wp_retn k81_19 rfl rfl
/-- which of c names -/
abbrev fdF (g : Nat → Int32) (c : Nat) (x : Int32) : Int32 := fnF (fun k => decide (g k = x)) c 0
theorem s_find {S : ww_S} {sh : List mm_C} {V : hV} {a c : Nat} (h : kNames sh a) (hc : V.1 a 1 = Int32.ofNat c) (h5 : c ≤ 5) {x : Int32} : EV S 1 51 [.ref a, .int x] (hH sh V) (.inl (some (.int (fdF (V.1 (a + 1)) c x)))) (hH sh V) := by
  have key : ∀ (g i : Nat), g + i = c → WP S 0 mm_m51 2 [some (.ref a), some (.int x), some (.int (Int32.ofNat i))] [] (hH sh V) (qe (.inl (some (.int (fnF (fun k => decide (V.1 (a + 1) k = x)) g i)))) (hH sh V)) := by
    intro g
    induction g with
    | zero =>
      intro i hi
      have hi : c = i := by omega
      subst hi
      refine wp_iload_n k51_2 rfl rfl ?_
      refine wp_aload_n k51_3 rfl rfl ?_
      refine wp_getI k51_4 h.1.h h.1.o rfl _ hc ?_
      refine wp_if_icmp_ge_T k51_7 (i_nlt (Nat.le_refl _) (by omega)) ?_
      refine wp_iconst (-1) k51_37 (by decide) ?_
      exact wp_reti k51_38 rfl rfl rfl
    | succ g ih =>
      intro i hi
      refine wp_iload_n k51_2 rfl rfl ?_
      refine wp_aload_n k51_3 rfl rfl ?_
      refine wp_getI k51_4 h.1.h h.1.o rfl _ hc ?_
      refine wp_if_icmp_ge_F k51_7 (i_lt (by omega) (by omega)) ?_
      refine wp_iload_n k51_10 rfl rfl ?_
      refine wp_aload_n k51_11 rfl rfl ?_
      refine wq_getR k51_12 h.1 rfl ?_
      refine wp_alen k51_15 rfl h.2.h h.2.o ?_
      refine wp_if_icmp_ge_F k51_16 (i_lt (k := i) (n := 5) (by omega) (by decide)) ?_
      refine wp_aload_n k51_19 rfl rfl ?_
      refine wq_getR k51_20 h.1 rfl ?_
      refine wp_iload_n k51_23 rfl rfl ?_
      refine wp_iaload k51_24 h.2.h h.2.o (in_of (i_nlt (k := i) (n := 0) (Nat.zero_le _) (by omega)) (i_lt (k := i) (n := 5) (by omega) (by decide)) (by decide)) i (i_un (by omega)) _ rfl ?_
      refine wp_iload_n k51_25 rfl rfl ?_
      unfold fnF
      by_cases e : V.1 (a + 1) i = x
      · rw [decide_eq_true e, if_pos rfl]
        refine wp_if_icmp_ne_F k51_26 e ?_
        refine wp_iload_n k51_29 rfl rfl ?_
        exact wp_reti k51_30 rfl rfl rfl
      · rw [decide_eq_false e, if_neg (by decide)]
        refine wp_if_icmp_ne_T k51_26 e ?_
        refine wp_iinc 1 (L1 := [_, _, _]) k51_31 rfl (by decide) rfl ?_
        refine wp_goto k51_34 ?_
        rw [i_succ]
        exact ih (i + 1) (by omega)
  refine ev_qe P51 rfl ?_
  refine wp_iconst 0 k51_0 (by decide) ?_
  refine wp_istore_n (L1 := [_, _, _]) k51_1 rfl rfl ?_
  exact key c 0 rfl
theorem s_full5 {S : ww_S} {sh : List mm_C} {V : hV} {a c : Nat} (h : kNames sh a) (hc : V.1 a 1 = Int32.ofNat c) (h5 : c ≤ 5) : EV S 1 49 [.ref a] (hH sh V) (.inl (some (.int (bI (decide (c = 5)))))) (hH sh V) := by
  refine ev_qe P49 rfl ?_
  refine wp_aload_n k49_0 rfl rfl ?_
  refine wp_getI k49_1 h.1.h h.1.o rfl _ hc ?_
  refine wp_aload_n k49_4 rfl rfl ?_
  refine wq_getR k49_5 h.1 rfl ?_
  refine wp_alen k49_8 rfl h.2.h h.2.o ?_
  by_cases e : c = 5
  · refine wp_if_icmp_lt_F k49_9 (i_nlt (k := c) (n := 5) (by omega) (by omega)) ?_
    refine wp_iconst 1 k49_12 (by decide) ?_
    refine wp_goto k49_13 ?_
    exact wp_retz k49_17 rfl (by rw [decide_eq_true e]; rfl) rfl
  · refine wp_if_icmp_lt_T k49_9 (i_lt (k := c) (n := 5) (by omega) (by decide)) ?_
    refine wp_iconst 0 k49_16 (by decide) ?_
    exact wp_retz k49_17 rfl (by rw [decide_eq_false e]; rfl) rfl
/-- a name more -/
def naV (V : hV) (a c : Nat) (x : Int32) : hV := up (up V (a + 1) c x) a 1 (Int32.ofNat (c + 1))
theorem s_nadd {S : ww_S} {sh : List mm_C} {V : hV} {a c : Nat} (h : kNames sh a) (hc : V.1 a 1 = Int32.ofNat c) (h5 : c ≤ 5) (hlt : c < 5) {x : Int32} : EV S 2 50 [.ref a, .int x] (hH sh V) (.inl none) (hH sh (naV V a c x)) := by
  have E := s_put (S := S) (V := V) h.2.r (by decide) (i := Int32.ofNat c) (x := x)
  rw [putV_up hlt (by decide)] at E
  refine ev_qe P50 rfl ?_
  refine wp_aload_n k50_0 rfl rfl ?_
  refine wq_getR k50_1 h.1 rfl ?_
  refine wp_aload_n k50_4 rfl rfl ?_
  refine wp_getI k50_5 h.1.h h.1.o rfl _ hc ?_
  refine wp_iload_n k50_8 rfl rfl ?_
  refine wp_csn (st2 := []) k50_9 E (by decide) rfl rfl rfl (by decide) ?_
  refine wp_aload_n k50_12 rfl rfl ?_
  refine wp_dup k50_13 rfl ?_
  refine wp_getI k50_14 h.1.h h.1.o rfl (Int32.ofNat c) ((up_ne _ _ (Or.inl (by omega))).trans hc) ?_
  refine wp_iconst 1 k50_17 (by decide) ?_
  refine wp_iadd k50_18 ?_
  refine wp_cast (i_succ c) ?_
  refine wp_putI k50_19 h.1.h h.1.o rfl rfl rfl ?_
  exact wp_retn k50_22 rfl rfl
end N_e
