section N_c
/-! ===== the class, exactly: the text cut into tokens ===== -/
theorem skF_more (f : Nat → Int32) (l : Nat) : ∀ g a, l ≤ a + g → ∀ g2, g ≤ g2 → skF f l g2 a = skF f l g a
  | 0, a, h, g2, _ => by
    have hn : byt f l a ≠ 32 := fun q => by
      have := sp_lt q
      omega
    rw [skF_id hn, skF_id hn]
  | g + 1, a, h, 0, h2 => absurd h2 (by omega)
  | g + 1, a, h, g2 + 1, h2 => by
    unfold skF
    rw [skF_more f l g (a + 1) (by omega) g2 (by omega)]
theorem sk_sp {f : Nat → Int32} {l a : Nat} (h : byt f l a = 32) : sk f l a = sk f l (a + 1) := by
  have hl := sp_lt h
  obtain ⟨g, rfl⟩ : ∃ g, l = g + 1 := ⟨l - 1, by omega⟩
  show (if byt f (g + 1) a = 32 then skF f (g + 1) g (a + 1) else a) = _
  rw [if_pos h]
  exact (skF_more f (g + 1) g (a + 1) (by omega) (g + 1) (by omega)).symm
def TK (sh : List mm_C) (V : hV) (f : Nat → Int32) (l a n : Nat) : Prop := SoT sh V f l ∧ V.1 65 5 = Int32.ofNat n ∧ n ≤ a ∧ a ≤ l ∧ sk f l a = tp f l n ∧ ∀ j, j < n → tkC V f l j (tp f l j)
/-- what reading tokens leaves as it is -/
def FrT (V W : hV) : Prop := (∀ b, b ≠ 65 → b ≠ 67 → b ≠ 68 → b ≠ 69 → W.1 b = V.1 b) ∧ ∀ k, k ≠ 5 → W.1 65 k = V.1 65 k
theorem frt_0 (V : hV) : FrT V V := ⟨fun _ _ _ _ _ => rfl, fun _ _ => rfl⟩
theorem FrT.t {A B C : hV} (h1 : FrT A B) (h2 : FrT B C) : FrT A C := ⟨fun b a1 a2 a3 a4 => (h2.1 b a1 a2 a3 a4).trans (h1.1 b a1 a2 a3 a4), fun k hk => (h2.2 k hk).trans (h1.2 k hk)⟩
theorem frt_tk {V : hV} {n : Nat} {k s m : Int32} : FrT V (tkV V n k s m) := ⟨fun b a1 a2 a3 a4 => (funext fun j => up_ne _ _ (Or.inl a1)).trans ((funext fun j => up_ne _ _ (Or.inl a4)).trans ((funext fun j => up_ne _ _ (Or.inl a3)).trans (funext fun j => up_ne _ _ (Or.inl a2)))), fun q hq => (up_ne _ _ (Or.inr hq)).trans ((up_ne _ _ (Or.inl (by decide))).trans ((up_ne _ _ (Or.inl (by decide))).trans (up_ne _ _ (Or.inl (by decide)))))⟩
theorem SoT.fr {sh : List mm_C} {V W : hV} {f : Nat → Int32} {l : Nat} (h : SoT sh V f l) (g : FrT V W) : SoT sh W f l := ⟨h.1, (g.2 4 (by decide)).trans h.2.1, h.2.2.1, (g.1 66 (by decide) (by decide) (by decide) (by decide)).trans h.2.2.2⟩
theorem tk_c {V : hV} {f : Nat → Int32} {l n p : Nat} {k s m : Int32} (hk : k = kdE f l p) (hs : s = Int32.ofNat p) (hm : m = nmE f l p) : tkC (tkV V n k s m) f l n p := by
  refine ⟨?_, ?_, ?_⟩
  · exact (up_ne _ _ (Or.inl (by decide))).trans ((up_ne _ _ (Or.inl (by decide))).trans ((up_ne _ _ (Or.inl (by decide))).trans ((up_eq _ _ _ _).trans hk)))
  · exact (up_ne _ _ (Or.inl (by decide))).trans ((up_ne _ _ (Or.inl (by decide))).trans ((up_eq _ _ _ _).trans hs))
  · exact (up_ne _ _ (Or.inl (by decide))).trans ((up_eq _ _ _ _).trans hm)
theorem tk_o {V : hV} {f : Nat → Int32} {l n i p : Nat} {k s m : Int32} (h : tkC V f l i p) (hi : i ≠ n) : tkC (tkV V n k s m) f l i p := by
  obtain ⟨h1, h2, h3⟩ := h
  refine ⟨?_, ?_, ?_⟩
  · exact (up_ne _ _ (Or.inl (by decide))).trans ((up_ne _ _ (Or.inl (by decide))).trans ((up_ne _ _ (Or.inl (by decide))).trans ((up_ne _ _ (Or.inr hi)).trans h1)))
  · exact (up_ne _ _ (Or.inl (by decide))).trans ((up_ne _ _ (Or.inl (by decide))).trans ((up_ne _ _ (Or.inr hi)).trans ((up_ne _ _ (Or.inl (by decide))).trans h2)))
  · exact (up_ne _ _ (Or.inl (by decide))).trans ((up_ne _ _ (Or.inr hi)).trans ((up_ne _ _ (Or.inl (by decide))).trans ((up_ne _ _ (Or.inl (by decide))).trans h3)))
theorem TK.add {sh : List mm_C} {V : hV} {f : Nat → Int32} {l a n : Nat} {k m : Int32} (h : TK sh V f l a n) (ha : a < l) (hs : byt f l a ≠ 32) (hk : k = kdF f l a) (hm : m = nmT f l a) : TK sh (tkV V n k (Int32.ofNat a) m) f l (a + wdN f l a) (n + 1) := by
  obtain ⟨h1, h2, h3, h4, h5, h6⟩ := h
  have hp : tp f l n = a := h5.symm.trans (sk_id hs)
  obtain ⟨w1, w2⟩ := wd_le (f := f) ha
  refine ⟨h1.fr frt_tk, (up_eq _ _ _ _).trans (i_succ n), by omega, w1, ?_, fun j hj => ?_⟩
  · show sk f l (a + wdN f l a) = nxE f l (tp f l n)
    rw [hp]
    unfold nxE
    rw [if_pos ha]
  · by_cases c : j = n
    · subst c
      rw [hp]
      refine tk_c ?_ rfl ?_
      · unfold kdE
        rw [if_pos ha, hk]
      · unfold nmE
        rw [if_pos ha, hm]
    · exact tk_o (h6 j (by omega)) c
theorem s_scan {S : ww_S} {sh : List mm_C} {V : hV} {f : Nat → Int32} {l a n : Nat} (h : TK sh V f l a n) (ha : a < l) : ∃ W a2 n2, EV S 7 67 [.ref 65, .int (Int32.ofNat a)] (hH sh V) (.inl (some (.int (Int32.ofNat a2)))) (hH sh W) ∧ TK sh W f l a2 n2 ∧ a < a2 ∧ FrT V W := by
  have hT := h.1
  have hS := hT.1
  have h6 := hT.2.2.1
  have hna := h.2.2.1
  have EB := s_byteAt (S := S) hT (k := a) (by omega)
  have key : ∀ (g w : Nat) (Q : mm_V → mm_H → Prop), g + w = l → WP S 6 mm_m67 42 [some (.ref 65), some (.int (Int32.ofNat a)), some (.int (Int32.ofNat (wlF f l a g w))), none] [] (hH sh V) Q → WP S 6 mm_m67 16 [some (.ref 65), some (.int (Int32.ofNat a)), some (.int (Int32.ofNat w)), none] [] (hH sh V) Q := by
    intro g
    induction g with
    | zero =>
      intro w Q hw k
      refine wp_iload_n k67_16 rfl rfl ?_
      refine wp_iload_n k67_17 rfl rfl ?_
      refine wp_iadd k67_18 ?_
      refine wp_cast (i_add a w) ?_
      refine wp_aload_n k67_19 rfl rfl ?_
      refine wp_getI k67_20 hS.1.h hS.1.o rfl _ hT.2.1 ?_
      refine wp_if_icmp_ge_T k67_23 (i_nlt (by omega) (by omega)) ?_
      exact k
    | succ g ih =>
      intro w Q hw k
      refine wp_iload_n k67_16 rfl rfl ?_
      refine wp_iload_n k67_17 rfl rfl ?_
      refine wp_iadd k67_18 ?_
      refine wp_cast (i_add a w) ?_
      refine wp_aload_n k67_19 rfl rfl ?_
      refine wp_getI k67_20 hS.1.h hS.1.o rfl _ hT.2.1 ?_
      unfold wlF at k
      by_cases c : a + w < l
      · refine wp_if_icmp_ge_F k67_23 (i_lt c (by omega)) ?_
        refine wp_aload_n k67_26 rfl rfl ?_
        refine wp_iload_n k67_27 rfl rfl ?_
        refine wp_iload_n k67_28 rfl rfl ?_
        refine wp_iadd k67_29 ?_
        refine wp_cast (i_add a w) ?_
        refine wp_cv (st2 := []) k67_30 (s_isLetter hT (by omega)) (by decide) rfl rfl rfl rfl (by decide) hS.1.o (by decide) ?_
        cases hl : ltr (byt f l (a + w)) with
        | false =>
          rw [if_neg (by rw [hl]; decide)] at k
          refine wp_if_eq_T k67_33 rfl ?_
          exact k
        | true =>
          rw [if_pos hl] at k
          refine wp_if_eq_F k67_33 (by decide) ?_
          refine wp_iinc 1 (L1 := [_, _, _, _]) k67_36 rfl (by decide) rfl ?_
          refine wp_goto k67_39 ?_
          rw [i_succ]
          exact ih (w + 1) Q (by omega) k
      · rw [if_neg (fun q => c (ltr_lt q))] at k
        refine wp_if_icmp_ge_T k67_23 (i_nlt (by omega) (by omega)) ?_
        exact k
  have E : EVQ S 7 67 [.ref 65, .int (Int32.ofNat a)] (hH sh V) (fun v g => ∃ W a2 n2, v = .inl (some (.int (Int32.ofNat a2))) ∧ g = hH sh W ∧ TK sh W f l a2 n2 ∧ a < a2 ∧ FrT V W) := by
    refine ev_of P67 rfl ?_
    refine wp_aload_n k67_0 rfl rfl ?_
    refine wp_iload_n k67_1 rfl rfl ?_
    refine wp_cv (st2 := []) k67_2 EB (by decide) rfl rfl rfl rfl (by decide) hS.1.o (by decide) ?_
    refine wp_bipush 32 k67_5 (by decide) ?_
    by_cases c : byt f l a = 32
    · refine wp_if_icmp_ne_F k67_7 c ?_
      refine wp_iload_n k67_10 rfl rfl ?_
      refine wp_iconst 1 k67_11 (by decide) ?_
      refine wp_iadd k67_12 ?_
      refine wp_cast (i_succ a) ?_
      exact wp_retI k67_13 rfl ⟨V, a + 1, n, rfl, rfl, ⟨hT, h.2.1, by omega, by omega, (sk_sp c).symm.trans h.2.2.2.2.1, h.2.2.2.2.2⟩, by omega, frt_0 V⟩
    · refine wp_if_icmp_ne_T k67_7 c ?_
      refine wp_iconst 0 k67_14 (by decide) ?_
      refine wp_istore_n (L1 := [_, _, _, _]) k67_15 rfl rfl ?_
      refine key l 0 _ rfl ?_
      have hw := wl_le (f := f) (l := l) (p := a) (by omega)
      refine wp_iload_n k67_42 rfl rfl ?_
      by_cases c0 : wl f l a = 0
      · have c0' : wlF f l a l 0 = 0 := c0
        rw [c0']
        refine wp_if_ne_F k67_43 rfl ?_
        refine wp_aload_n k67_46 rfl rfl ?_
        refine wp_aload_n k67_47 rfl rfl ?_
        refine wp_iload_n k67_48 rfl rfl ?_
        refine wp_cv (st2 := [_]) k67_49 EB (by decide) rfl rfl rfl rfl (by decide) hS.1.o (by decide) ?_
        refine wp_iload_n k67_52 rfl rfl ?_
        refine wp_iconst 0 k67_53 (by decide) ?_
        refine wp_cvn (st2 := []) k67_54 (s_addToken hS h.2.1 (by omega)) (by decide) rfl rfl rfl rfl (by decide) hS.1.o (by decide) ?_
        refine wp_iload_n k67_57 rfl rfl ?_
        refine wp_iconst 1 k67_58 (by decide) ?_
        refine wp_iadd k67_59 ?_
        refine wp_cast (i_succ a) ?_
        have hA := h.add (k := byt f l a) (m := 0) ha c (by unfold kdF; rw [if_pos c0]) (by unfold nmT; rw [if_pos c0])
        have ew : wdN f l a = 1 := by unfold wdN; rw [if_pos c0]
        rw [ew] at hA
        exact wp_retI k67_60 rfl ⟨_, a + 1, n + 1, rfl, rfl, hA, by omega, frt_tk⟩
      · have hw' : a + wlF f l a l 0 ≤ l := hw
        have c0' : ¬ wlF f l a l 0 = 0 := c0
        have ew : wdN f l a = wlF f l a l 0 := by unfold wdN; rw [if_neg c0]
        refine wp_if_ne_T k67_43 (fun q => c0' (i_inj (a := wlF f l a l 0) (b := 0) (by omega) (by decide) q)) ?_
        refine wp_iload_n k67_61 rfl rfl ?_
        refine wp_bipush 6 k67_62 (by decide) ?_
        have fin : ∀ (kd nm : Int32), kd = kdF f l a → nm = nmT f l a → WP S 6 mm_m67 98 [some (.ref 65), some (.int (Int32.ofNat a)), some (.int (Int32.ofNat (wlF f l a l 0))), some (.int kd)] [.int nm, .int (Int32.ofNat a), .int kd, .ref 65] (hH sh V) (fun v g => ∃ W a2 n2, v = .inl (some (.int (Int32.ofNat a2))) ∧ g = hH sh W ∧ TK sh W f l a2 n2 ∧ a < a2 ∧ FrT V W) := by
          intro kd nm e1 e2
          have hA := h.add (k := kd) (m := nm) ha c e1 e2
          rw [ew] at hA
          refine wp_cvn (st2 := []) k67_98 (s_addToken hS h.2.1 (by omega)) (by decide) rfl rfl rfl rfl (by decide) hS.1.o (by decide) ?_
          refine wp_iload_n k67_101 rfl rfl ?_
          refine wp_iload_n k67_102 rfl rfl ?_
          refine wp_iadd k67_103 ?_
          refine wp_cast (i_add a (wlF f l a l 0)) ?_
          exact wp_retI k67_104 rfl ⟨_, a + wlF f l a l 0, n + 1, rfl, rfl, hA, by omega, frt_tk⟩
        have p78 : ∀ kd : Int32, kd = kdF f l a → WP S 6 mm_m67 78 [some (.ref 65), some (.int (Int32.ofNat a)), some (.int (Int32.ofNat (wlF f l a l 0))), none] [.int kd] (hH sh V) (fun v g => ∃ W a2 n2, v = .inl (some (.int (Int32.ofNat a2))) ∧ g = hH sh W ∧ TK sh W f l a2 n2 ∧ a < a2 ∧ FrT V W) := by
          intro kd e1
          refine wp_istore_n (L1 := [_, _, _, _]) k67_78 rfl rfl ?_
          refine wp_aload_n k67_79 rfl rfl ?_
          refine wp_iload_n k67_80 rfl rfl ?_
          refine wp_iload_n k67_81 rfl rfl ?_
          refine wp_iload_n k67_82 rfl rfl ?_
          refine wp_sipush 256 k67_83 (by decide) ?_
          by_cases c2 : kd = 256
          · refine wp_if_icmp_ne_F k67_86 c2 ?_
            refine wp_aload_n k67_89 rfl rfl ?_
            refine wp_iload_n k67_90 rfl rfl ?_
            refine wp_cv (st2 := [_, _, _]) k67_91 (s_nameAt hT (by omega)) (by decide) rfl rfl rfl rfl (by decide) hS.1.o (by decide) ?_
            refine wp_goto k67_94 ?_
            exact fin kd _ e1 (by unfold nmT; rw [if_neg c0, if_pos (e1.symm.trans c2)])
          · refine wp_if_icmp_ne_T k67_86 c2 ?_
            refine wp_iconst 0 k67_97 (by decide) ?_
            exact fin kd 0 e1 (by unfold nmT; rw [if_neg c0, if_neg (fun q => c2 (e1.trans q))])
        by_cases c6 : 6 < wl f l a
        · have c6' : 6 < wlF f l a l 0 := c6
          refine wp_if_icmp_le_F k67_64 (i_lt (k := 6) c6' (by omega)) ?_
          refine wp_sipush 266 k67_67 (by decide) ?_
          refine wp_goto k67_70 ?_
          exact p78 266 (by unfold kdF; rw [if_neg c0, if_pos c6])
        · have c6' : ¬ 6 < wlF f l a l 0 := c6
          refine wp_if_icmp_le_T k67_64 (i_nlt (k := 6) (by omega) (by decide)) ?_
          refine wp_aload_n k67_73 rfl rfl ?_
          refine wp_iload_n k67_74 rfl rfl ?_
          refine wp_cv (st2 := []) k67_75 (s_kindOfWord hT (by omega)) (by decide) rfl rfl rfl rfl (by decide) hS.1.o (by decide) ?_
          exact p78 _ (by unfold kdF; rw [if_neg c0, if_neg c6])
  obtain ⟨v, g, e, W, a2, n2, h1, h2, h3, h4, h5⟩ := E
  subst h1 h2
  exact ⟨W, a2, n2, e, h3, h4, h5⟩
end N_c
