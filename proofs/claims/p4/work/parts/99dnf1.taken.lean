section N_f
/-! ===== the class, exactly: names taken ===== -/
theorem fd_lt (g : Nat → Bool) : ∀ m k, fnF g m k = -1 ∨ ∃ i, k ≤ i ∧ i < k + m ∧ g i = true ∧ fnF g m k = Int32.ofNat i
  | 0, _ => Or.inl rfl
  | m + 1, k => by
    unfold fnF
    by_cases c : g k = true
    · rw [if_pos c]
      exact Or.inr ⟨k, Nat.le_refl k, by omega, c, rfl⟩
    · rw [if_neg c]
      rcases fd_lt g m (k + 1) with h | ⟨i, h1, h2, h3, h4⟩
      · exact Or.inl h
      · exact Or.inr ⟨i, by omega, by omega, h3, h4⟩
theorem of_ne {i : Nat} (h : i ≤ 100000) : ¬ Int32.ofNat i = -1 := fun q => by
  have := congrArg mm_un q
  rw [i_un (by omega)] at this
  have h2 : mm_un (-1) = 4294967295 := by decide
  omega
/-- a name may be new -/
def nwB (f : Nat → Int32) (l p : Nat) (G : Nat → Int32) (c : Nat) : Bool := decide (kdE f l p = 256) && (decide (fdF G c (nmE f l p) = -1) && !decide (c = 5))
theorem nw_t {f : Nat → Int32} {l p : Nat} {G : Nat → Int32} {c : Nat} (h1 : kdE f l p = 256) (h2 : fdF G c (nmE f l p) = -1) (h3 : ¬ c = 5) : nwB f l p G c = true := by
  unfold nwB
  rw [decide_eq_true h1, decide_eq_true h2, decide_eq_false h3]
  rfl
def FrN (a : Nat) (V W : hV) : Prop := ∀ b, b ≠ 65 → b ≠ a → b ≠ a + 1 → W.1 b = V.1 b
theorem s_takeNew {S : ww_S} {sh : List mm_C} {V : hV} {f : Nat → Int32} {l p : Nat} {e : Int32} (h : SRC sh V f l p e) {a c : Nat} (hN : kNames sh a) (ha : 70 ≤ a) (hc : V.1 a 1 = Int32.ofNat c) (h5 : c ≤ 5) : ∃ W, EV S 3 82 [.ref 65, .ref a] (hH sh V) (.inl none) (hH sh W) ∧ FrN a V W ∧ ((nwB f l p (V.1 (a + 1)) c = true ∧ c < 5 ∧ SRC sh W f l (nxE f l p) e ∧ W.1 a 1 = Int32.ofNat (c + 1) ∧ ∀ k, W.1 (a + 1) k = if k = c then nmE f l p else V.1 (a + 1) k) ∨ (nwB f l p (V.1 (a + 1)) c = false ∧ ∃ q : Int32, q ≠ 0 ∧ SRC sh W f l p (erN e q) ∧ W.1 a = V.1 a ∧ W.1 (a + 1) = V.1 (a + 1))) := by
  have EN := s_isName (S := S) h
  by_cases k1 : kdE f l p = 256
  · rw [decide_eq_true k1] at EN
    have EF := s_find (S := S) hN hc h5 (x := nmE f l p)
    by_cases k2 : fdF (V.1 (a + 1)) c (nmE f l p) = -1
    · have EU := s_full5 (S := S) hN hc h5
      by_cases k3 : c = 5
      · obtain ⟨W, E, h2, h3⟩ := s_fail (S := S) h (c := 3) (x := Int32.ofNat p)
        refine ⟨W, ?_, fun b b1 _ _ => h3 b b1, Or.inr ⟨?_, 3, by decide, h2, h3 a (by omega), h3 (a + 1) (by omega)⟩⟩
        · rw [decide_eq_true k3] at EU
          refine ev_qe P82 rfl ?_
          refine wp_aload_n k82_0 rfl rfl ?_
          refine wp_cv (st2 := []) k82_1 EN (by decide) rfl rfl rfl rfl (by decide) h.o (by decide) ?_
          refine wp_if_ne_T k82_4 (by decide) ?_
          refine wp_aload_n k82_19 rfl rfl ?_
          refine wp_aload_n k82_20 rfl rfl ?_
          refine wp_getI k82_21 h.S.1.h h.o rfl _ h.kd.2.2.1 ?_
          refine wp_cv (st2 := []) k82_24 EF (by decide) rfl rfl rfl rfl hN.1.h hN.1.o (by decide) ?_
          refine wp_iconst (-1) k82_27 (by decide) ?_
          refine wp_if_icmp_eq_T k82_28 k2 ?_
          refine wp_aload_n k82_43 rfl rfl ?_
          refine wp_cv (st2 := []) k82_44 EU (by decide) rfl rfl rfl rfl hN.1.h hN.1.o (by decide) ?_
          refine wp_if_eq_F k82_47 (by decide) ?_
          refine wp_aload_n k82_50 rfl rfl ?_
          refine wp_iconst 3 k82_51 (by decide) ?_
          refine wp_aload_n k82_52 rfl rfl ?_
          refine wp_getI k82_53 h.S.1.h h.o rfl _ h.kd.2.1 ?_
          refine wp_cvn (st2 := []) k82_56 E (by decide) rfl rfl rfl rfl (by decide) h.o (by decide) ?_
          refine wp_goto k82_59 ?_
          exact wp_retn k82_74 rfl rfl
        · unfold nwB
          rw [decide_eq_true k3, Bool.not_true, Bool.and_false, Bool.and_false]
      · rw [decide_eq_false k3] at EU
        have EA := s_nadd (S := S) hN hc h5 (by omega) (x := nmE f l p)
        have hV2 : SRC sh (naV V a c (nmE f l p)) f l p e := h.fr fun b b1 b2 => (funext fun j => up_ne _ _ (Or.inl (by omega))).trans (funext fun j => up_ne _ _ (Or.inl (by omega)))
        obtain ⟨W, E, h2, h3⟩ := s_advance (S := S) hV2
        refine ⟨W, ?_, fun b b1 b2 b3 => (h3 b b1).trans ((funext fun j => up_ne _ _ (Or.inl b2)).trans (funext fun j => up_ne _ _ (Or.inl b3))), Or.inl ⟨nw_t k1 k2 k3, by omega, h2, ?_, fun k => ?_⟩⟩
        · refine ev_qe P82 rfl ?_
          refine wp_aload_n k82_0 rfl rfl ?_
          refine wp_cv (st2 := []) k82_1 EN (by decide) rfl rfl rfl rfl (by decide) h.o (by decide) ?_
          refine wp_if_ne_T k82_4 (by decide) ?_
          refine wp_aload_n k82_19 rfl rfl ?_
          refine wp_aload_n k82_20 rfl rfl ?_
          refine wp_getI k82_21 h.S.1.h h.o rfl _ h.kd.2.2.1 ?_
          refine wp_cv (st2 := []) k82_24 EF (by decide) rfl rfl rfl rfl hN.1.h hN.1.o (by decide) ?_
          refine wp_iconst (-1) k82_27 (by decide) ?_
          refine wp_if_icmp_eq_T k82_28 k2 ?_
          refine wp_aload_n k82_43 rfl rfl ?_
          refine wp_cv (st2 := []) k82_44 EU (by decide) rfl rfl rfl rfl hN.1.h hN.1.o (by decide) ?_
          refine wp_if_eq_T k82_47 rfl ?_
          refine wp_aload_n k82_62 rfl rfl ?_
          refine wp_aload_n k82_63 rfl rfl ?_
          refine wp_getI k82_64 h.S.1.h h.o rfl _ h.kd.2.2.1 ?_
          refine wp_cvn (st2 := []) k82_67 EA (by decide) rfl rfl rfl rfl hN.1.h hN.1.o (by decide) ?_
          refine wp_aload_n k82_70 rfl rfl ?_
          refine wp_cvn (st2 := []) k82_71 E (by decide) rfl rfl rfl rfl (by decide) h.o (by decide) ?_
          exact wp_retn k82_74 rfl rfl
        · exact (congrFun (h3 a (by omega)) 1).trans (up_eq _ _ _ _)
        · rw [h3 (a + 1) (by omega)]
          have e1 : (naV V a c (nmE f l p)).1 (a + 1) k = (up V (a + 1) c (nmE f l p)).1 (a + 1) k := up_ne _ _ (Or.inl (by omega))
          rw [e1]
          by_cases hk : k = c
          · subst hk
            rw [up_eq, if_pos rfl]
          · rw [up_ne _ _ (Or.inr hk), if_neg hk]
    · obtain ⟨W, E, h2, h3⟩ := s_fail (S := S) h (c := 2) (x := Int32.ofNat p)
      refine ⟨W, ?_, fun b b1 _ _ => h3 b b1, Or.inr ⟨?_, 2, by decide, h2, h3 a (by omega), h3 (a + 1) (by omega)⟩⟩
      · refine ev_qe P82 rfl ?_
        refine wp_aload_n k82_0 rfl rfl ?_
        refine wp_cv (st2 := []) k82_1 EN (by decide) rfl rfl rfl rfl (by decide) h.o (by decide) ?_
        refine wp_if_ne_T k82_4 (by decide) ?_
        refine wp_aload_n k82_19 rfl rfl ?_
        refine wp_aload_n k82_20 rfl rfl ?_
        refine wp_getI k82_21 h.S.1.h h.o rfl _ h.kd.2.2.1 ?_
        refine wp_cv (st2 := []) k82_24 EF (by decide) rfl rfl rfl rfl hN.1.h hN.1.o (by decide) ?_
        refine wp_iconst (-1) k82_27 (by decide) ?_
        refine wp_if_icmp_eq_F k82_28 k2 ?_
        refine wp_aload_n k82_31 rfl rfl ?_
        refine wp_iconst 2 k82_32 (by decide) ?_
        refine wp_aload_n k82_33 rfl rfl ?_
        refine wp_getI k82_34 h.S.1.h h.o rfl _ h.kd.2.1 ?_
        refine wp_cvn (st2 := []) k82_37 E (by decide) rfl rfl rfl rfl (by decide) h.o (by decide) ?_
        refine wp_goto k82_40 ?_
        exact wp_retn k82_74 rfl rfl
      · unfold nwB
        rw [decide_eq_false k2, Bool.false_and, Bool.and_false]
  · rw [decide_eq_false k1] at EN
    obtain ⟨W, E, h2, h3⟩ := s_fail (S := S) h (c := 1) (x := Int32.ofNat p)
    refine ⟨W, ?_, fun b b1 _ _ => h3 b b1, Or.inr ⟨?_, 1, by decide, h2, h3 a (by omega), h3 (a + 1) (by omega)⟩⟩
    · refine ev_qe P82 rfl ?_
      refine wp_aload_n k82_0 rfl rfl ?_
      refine wp_cv (st2 := []) k82_1 EN (by decide) rfl rfl rfl rfl (by decide) h.o (by decide) ?_
      refine wp_if_ne_F k82_4 rfl ?_
      refine wp_aload_n k82_7 rfl rfl ?_
      refine wp_iconst 1 k82_8 (by decide) ?_
      refine wp_aload_n k82_9 rfl rfl ?_
      refine wp_getI k82_10 h.S.1.h h.o rfl _ h.kd.2.1 ?_
      refine wp_cvn (st2 := []) k82_13 E (by decide) rfl rfl rfl rfl (by decide) h.o (by decide) ?_
      refine wp_goto k82_16 ?_
      exact wp_retn k82_74 rfl rfl
    · unfold nwB
      rw [decide_eq_false k1, Bool.false_and]
/-- the number of the name that stands at p, -1 with an error -/
def kwN (f : Nat → Int32) (l p : Nat) (G : Nat → Int32) (c : Nat) : Int32 := if kdE f l p = 256 then fdF G c (nmE f l p) else -1
theorem s_known {S : ww_S} {sh : List mm_C} {V : hV} {f : Nat → Int32} {l p : Nat} {e : Int32} (h : SRC sh V f l p e) {a c : Nat} (hN : kNames sh a) (ha : 70 ≤ a) (hc : V.1 a 1 = Int32.ofNat c) (h5 : c ≤ 5) : ∃ W, EV S 2 83 [.ref 65, .ref a] (hH sh V) (.inl (some (.int (kwN f l p (V.1 (a + 1)) c)))) (hH sh W) ∧ FrP V W ∧ ∃ q : Int32, q ≠ 0 ∧ SRC sh W f l p (if kwN f l p (V.1 (a + 1)) c = -1 then erN e q else e) := by
  have EN := s_isName (S := S) h
  unfold kwN
  by_cases k1 : kdE f l p = 256
  · rw [decide_eq_true k1] at EN
    have EF := s_find (S := S) hN hc h5 (x := nmE f l p)
    rw [if_pos k1]
    by_cases k2 : fdF (V.1 (a + 1)) c (nmE f l p) = -1
    · obtain ⟨W, E, h2, h3⟩ := s_fail (S := S) h (c := 2) (x := Int32.ofNat p)
      refine ⟨W, ?_, h3, 2, by decide, by rw [if_pos k2]; exact h2⟩
      refine ev_qe P83 rfl ?_
      refine wp_aload_n k83_0 rfl rfl ?_
      refine wp_cv (st2 := []) k83_1 EN (by decide) rfl rfl rfl rfl (by decide) h.o (by decide) ?_
      refine wp_if_ne_T k83_4 (by decide) ?_
      refine wp_aload_n k83_18 rfl rfl ?_
      refine wp_aload_n k83_19 rfl rfl ?_
      refine wp_getI k83_20 h.S.1.h h.o rfl _ h.kd.2.2.1 ?_
      refine wp_cv (st2 := []) k83_23 EF (by decide) rfl rfl rfl rfl hN.1.h hN.1.o (by decide) ?_
      refine wp_istore_n (L1 := [_, _, _]) k83_26 rfl rfl ?_
      refine wp_iload_n k83_27 rfl rfl ?_
      refine wp_iconst (-1) k83_28 (by decide) ?_
      refine wp_if_icmp_ne_F k83_29 k2 ?_
      refine wp_aload_n k83_32 rfl rfl ?_
      refine wp_iconst 2 k83_33 (by decide) ?_
      refine wp_aload_n k83_34 rfl rfl ?_
      refine wp_getI k83_35 h.S.1.h h.o rfl _ h.kd.2.1 ?_
      refine wp_cvn (st2 := []) k83_38 E (by decide) rfl rfl rfl rfl (by decide) h.o (by decide) ?_
      refine wp_iload_n k83_41 rfl rfl ?_
      exact wp_reti k83_42 rfl rfl rfl
    · refine ⟨V, ?_, fun b hb => rfl, 1, by decide, by rw [if_neg k2]; exact h⟩
      refine ev_qe P83 rfl ?_
      refine wp_aload_n k83_0 rfl rfl ?_
      refine wp_cv (st2 := []) k83_1 EN (by decide) rfl rfl rfl rfl (by decide) h.o (by decide) ?_
      refine wp_if_ne_T k83_4 (by decide) ?_
      refine wp_aload_n k83_18 rfl rfl ?_
      refine wp_aload_n k83_19 rfl rfl ?_
      refine wp_getI k83_20 h.S.1.h h.o rfl _ h.kd.2.2.1 ?_
      refine wp_cv (st2 := []) k83_23 EF (by decide) rfl rfl rfl rfl hN.1.h hN.1.o (by decide) ?_
      refine wp_istore_n (L1 := [_, _, _]) k83_26 rfl rfl ?_
      refine wp_iload_n k83_27 rfl rfl ?_
      refine wp_iconst (-1) k83_28 (by decide) ?_
      refine wp_if_icmp_ne_T k83_29 k2 ?_
      refine wp_iload_n k83_41 rfl rfl ?_
      exact wp_reti k83_42 rfl rfl rfl
  · rw [decide_eq_false k1] at EN
    rw [if_neg k1]
    obtain ⟨W, E, h2, h3⟩ := s_fail (S := S) h (c := 1) (x := Int32.ofNat p)
    refine ⟨W, ?_, h3, 1, by decide, by rw [if_pos rfl]; exact h2⟩
    refine ev_qe P83 rfl ?_
    refine wp_aload_n k83_0 rfl rfl ?_
    refine wp_cv (st2 := []) k83_1 EN (by decide) rfl rfl rfl rfl (by decide) h.o (by decide) ?_
    refine wp_if_ne_F k83_4 rfl ?_
    refine wp_aload_n k83_7 rfl rfl ?_
    refine wp_iconst 1 k83_8 (by decide) ?_
    refine wp_aload_n k83_9 rfl rfl ?_
    refine wp_getI k83_10 h.S.1.h h.o rfl _ h.kd.2.1 ?_
    refine wp_cvn (st2 := []) k83_13 E (by decide) rfl rfl rfl rfl (by decide) h.o (by decide) ?_
    refine wp_iconst (-1) k83_16 (by decide) ?_
    exact wp_reti k83_17 rfl rfl rfl
theorem s_takeKnown {S : ww_S} {sh : List mm_C} {V : hV} {f : Nat → Int32} {l p : Nat} {e : Int32} (h : SRC sh V f l p e) {a c : Nat} (hN : kNames sh a) (ha : 70 ≤ a) (hc : V.1 a 1 = Int32.ofNat c) (h5 : c ≤ 5) : ∃ W, EV S 3 84 [.ref 65, .ref a] (hH sh V) (.inl (some (.int (kwN f l p (V.1 (a + 1)) c)))) (hH sh W) ∧ FrP V W ∧ ∃ q : Int32, q ≠ 0 ∧ SRC sh W f l (if kwN f l p (V.1 (a + 1)) c = -1 then p else nxE f l p) (if kwN f l p (V.1 (a + 1)) c = -1 then erN e q else e) := by
  obtain ⟨W, E, h2, q, hq, h3⟩ := s_known (S := S) h hN ha hc h5
  by_cases k : kwN f l p (V.1 (a + 1)) c = -1
  · refine ⟨W, ?_, h2, q, hq, by rw [if_pos k] at h3 ⊢; rw [if_pos k]; exact h3⟩
    refine ev_qe P84 rfl ?_
    refine wp_aload_n k84_0 rfl rfl ?_
    refine wp_aload_n k84_1 rfl rfl ?_
    refine wp_cv (st2 := []) k84_2 E (by decide) rfl rfl rfl rfl (by decide) h.o (by decide) ?_
    refine wp_istore_n (L1 := [_, _, _]) k84_5 rfl rfl ?_
    refine wp_iload_n k84_6 rfl rfl ?_
    refine wp_iconst (-1) k84_7 (by decide) ?_
    refine wp_if_icmp_eq_T k84_8 k ?_
    refine wp_iload_n k84_15 rfl rfl ?_
    exact wp_reti k84_16 rfl rfl rfl
  · rw [if_neg k] at h3
    obtain ⟨U, E2, h4, h5'⟩ := s_advance (S := S) h3
    refine ⟨U, ?_, h2.t h5', q, hq, by rw [if_neg k, if_neg k]; exact h4⟩
    refine ev_qe P84 rfl ?_
    refine wp_aload_n k84_0 rfl rfl ?_
    refine wp_aload_n k84_1 rfl rfl ?_
    refine wp_cv (st2 := []) k84_2 E (by decide) rfl rfl rfl rfl (by decide) h.o (by decide) ?_
    refine wp_istore_n (L1 := [_, _, _]) k84_5 rfl rfl ?_
    refine wp_iload_n k84_6 rfl rfl ?_
    refine wp_iconst (-1) k84_7 (by decide) ?_
    refine wp_if_icmp_eq_F k84_8 k ?_
    refine wp_aload_n k84_11 rfl rfl ?_
    refine wp_cvn (st2 := []) k84_12 E2 (by decide) rfl rfl rfl rfl (by decide) h.o (by decide) ?_
    refine wp_iload_n k84_15 rfl rfl ?_
    exact wp_reti k84_16 rfl rfl rfl
end N_f
