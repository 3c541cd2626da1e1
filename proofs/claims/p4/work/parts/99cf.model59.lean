section M59
/-! ===== the reference: what is written ===== -/
def FRW (o : Nat) (V W : hV) : Prop := W.1 312 26 = Int32.ofNat o ∧ (∀ a, a ≠ 312 → a ≠ 322 → W.1 a = V.1 a) ∧ ∀ k, k ≠ 26 → W.1 312 k = V.1 312 k
theorem FRW.t {o p : Nat} {A B C : hV} (h1 : FRW o A B) (h2 : FRW p B C) : FRW p A C := ⟨h2.1, fun a z1 z2 => (h2.2.1 a z1 z2).trans (h1.2.1 a z1 z2), fun k z => (h2.2.2 k z).trans (h1.2.2 k z)⟩
def wrV (V : hV) (o : Nat) (c : Int32) : hV := up (up V 322 o c) 312 26 (Int32.ofNat (o + 1))
theorem frw_w {V : hV} {o : Nat} {c : Int32} : FRW (o + 1) V (wrV V o c) := ⟨up_eq _ _ _ _, fun a h1 h2 => (funext fun j => up_ne _ _ (Or.inl h1)).trans (funext fun j => up_ne _ _ (Or.inl h2)), fun k hk => (up_ne _ _ (Or.inr hk)).trans (up_ne _ _ (Or.inl (by decide)))⟩
theorem ri_w {o : Nat} {V W : hV} (f : FRW o V W) (h2 : o ≤ 2000) (h : RI V) : RI W := by
  obtain ⟨l, pm, ol, b, h1, h2', h3, h4, h5, h6, h7, h8, h9, h10⟩ := h
  refine ⟨l, pm, o, b, (f.2.2 10 (by decide)).trans h1, h2', (f.2.2 5 (by decide)).trans h3, h4, f.1, h2, (f.2.2 7 (by decide)).trans h7, fun z => ?_, ?_, h10.cg (f.2.1 317 (by decide) (by decide))⟩
  · rw [f.2.1 314 (by decide) (by decide)]
    exact h8 z
  · rw [f.2.1 313 (by decide) (by decide)]
    exact h9
theorem e_writes {S : ww_S} {sh : List mm_C} {V : hV} (hM : MS sh) {o : Nat} (ho : V.1 312 26 = Int32.ofNat o) (h2 : o < 2000) {c : Int32} : EV S 1 299 [.ref 312, .int c] (hH sh V) (.inl none) (hH sh (wrV V o c)) := by
  refine ev_qe P299 rfl ?_
  refine wp_aload_n k299_0 rfl rfl ?_
  refine wp_getR k299_1 (by decide) hM.o rfl ?_
  refine wp_aload_n k299_4 rfl rfl ?_
  refine wp_getI k299_5 (by decide) hM.o rfl (Int32.ofNat o) ho ?_
  refine wp_iload_n k299_8 rfl rfl ?_
  refine wp_iastore k299_9 (by decide) hM.a322 (i_inO (by omega) (by decide)) (o) (i_un (by omega)) ?_
  refine wp_aload_n k299_10 rfl rfl ?_
  refine wp_dup k299_11 rfl ?_
  refine wp_getI k299_12 (by decide) hM.o rfl (Int32.ofNat o) ((up_ne _ _ (Or.inl (by decide))).trans ho) ?_
  refine wp_iconst 1 k299_15 (by decide) ?_
  refine wp_iadd k299_16 ?_
  refine wp_cast (show Int32.ofNat (o) + (1 : Int32) = Int32.ofNat (o + 1) from (Int32.ofNat_add _ 1).symm) ?_
  refine wp_putI k299_17 (by decide) hM.o rfl rfl rfl ?_
  exact wp_retn k299_20 rfl rfl
theorem e_wtext {S : ww_S} {sh : List mm_C} {V : hV} (hM : MS sh) {o : Nat} (ho : V.1 312 26 = Int32.ofNat o) {k n N : Nat} (hx : XS k n N) (h2 : o + n ≤ 2000) : ∃ W, EV S 6 300 [.ref 312, .ref k] (hH sh V) (.inl none) (hH sh W) ∧ FRW (o + n) V W := by
  have key : ∀ (g i : Nat) (W : hV), g + i = n → FRW (o + i) V W → WP S 5 mm_m300 2 [some (.ref 312), some (.ref k), some (.int (Int32.ofNat i))] [] (hH sh W) (fun v g => ∃ W, v = .inl none ∧ g = hH sh W ∧ FRW (o + n) V W) := by
    intro g
    induction g with
    | zero =>
      intro i W hi f
      have hi : n = i := by omega
      subst hi
      refine wp_iload_n k300_2 rfl rfl ?_
      refine wp_aload_n k300_3 rfl rfl ?_
      refine wp_cvx (st2 := [_]) k300_4 (e_slen hx) (by decide) rfl rfl rfl rfl hx.lt hx.2.1 (by decide) ?_
      refine wp_if_icmp_ge_T k300_7 (i_nlt (Nat.le_refl _) (by omega)) ?_
      exact wp_retN k300_25 rfl ⟨_, rfl, rfl, f⟩
    | succ g ih =>
      intro i W hi f
      have EC := e_char (S := S) (h := hH sh W) hx (i := i) (by omega)
      have EW := e_writes (S := S) (sh := sh) hM f.1 (by omega) (c := chr N i)
      refine wp_iload_n k300_2 rfl rfl ?_
      refine wp_aload_n k300_3 rfl rfl ?_
      refine wp_cvx (st2 := [_]) k300_4 (e_slen hx) (by decide) rfl rfl rfl rfl hx.lt hx.2.1 (by decide) ?_
      refine wp_if_icmp_ge_F k300_7 (i_lt (by omega) (by have := hx.2.2.2; omega)) ?_
      refine wp_aload_n k300_10 rfl rfl ?_
      refine wp_aload_n k300_11 rfl rfl ?_
      refine wp_iload_n k300_12 rfl rfl ?_
      refine wp_cvx (st2 := [_]) k300_13 EC (by decide) rfl rfl rfl rfl hx.lt hx.2.1 (by decide) ?_
      refine wp_cvn (st2 := []) k300_16 EW (by decide) rfl rfl rfl rfl (by decide) hM.o (by decide) ?_
      refine wp_iinc (L1 := [_, _, _]) 1 k300_19 rfl (by decide) rfl ?_
      refine wp_goto k300_22 ?_
      rw [i_succ]
      exact ih (i + 1) _ (by omega) (f.t frw_w)
  have E : EVQ S 6 300 [.ref 312, .ref k] (hH sh V) (fun v g => ∃ W, v = .inl none ∧ g = hH sh W ∧ FRW (o + n) V W) := by
    refine ev_of P300 rfl ?_
    refine wp_iconst 0 k300_0 (by decide) ?_
    refine wp_istore_n (L1 := [_, _, _]) k300_1 rfl rfl ?_
    exact key n 0 V rfl ⟨ho, fun _ _ _ => rfl, fun _ _ => rfl⟩
  obtain ⟨v, g, e, W, h1, h3, f⟩ := E
  subst h1 h3
  exact ⟨W, e, f⟩
theorem e_wname {S : ww_S} {sh : List mm_C} {V : hV} (hM : MS sh) {o : Nat} (ho : V.1 312 26 = Int32.ofNat o) {t w : Nat} (ht : t + 7 ≤ 564) (hw : V.1 313 t = Int32.ofNat w) (hw6 : w ≤ 6) (h2 : o + w ≤ 2000) : ∃ W, EV S 2 301 [.ref 312, .int (Int32.ofNat t)] (hH sh V) (.inl none) (hH sh W) ∧ FRW (o + w) V W := by
  have key : ∀ (g i : Nat) (W : hV), g + i = w → FRW (o + i) V W → WP S 1 mm_m301 2 [some (.ref 312), some (.int (Int32.ofNat t)), some (.int (Int32.ofNat i))] [] (hH sh W) (fun v g => ∃ W, v = .inl none ∧ g = hH sh W ∧ FRW (o + w) V W) := by
    intro g
    induction g with
    | zero =>
      intro i W hi f
      have hi : w = i := by omega
      subst hi
      have hwW : W.1 313 t = Int32.ofNat w := (congrFun (f.2.1 313 (by decide) (by decide)) t).trans hw
      refine wp_iload_n k301_2 rfl rfl ?_
      refine wp_aload_n k301_3 rfl rfl ?_
      refine wp_getR k301_4 (by decide) hM.o rfl ?_
      refine wp_iload_n k301_7 rfl rfl ?_
      refine wp_iaload k301_8 (by decide) (hM.a313) (i_inO (by omega) (by decide)) (t) (i_un (by omega)) (Int32.ofNat w) hwW ?_
      refine wp_if_icmp_ge_T k301_9 (i_nlt (Nat.le_refl _) (by omega)) ?_
      exact wp_retN k301_32 rfl ⟨_, rfl, rfl, f⟩
    | succ g ih =>
      intro i W hi f
      have hwW : W.1 313 t = Int32.ofNat w := (congrFun (f.2.1 313 (by decide) (by decide)) t).trans hw
      have EW := fun c => e_writes (S := S) (sh := sh) hM f.1 (by omega) (c := c)
      refine wp_iload_n k301_2 rfl rfl ?_
      refine wp_aload_n k301_3 rfl rfl ?_
      refine wp_getR k301_4 (by decide) hM.o rfl ?_
      refine wp_iload_n k301_7 rfl rfl ?_
      refine wp_iaload k301_8 (by decide) (hM.a313) (i_inO (by omega) (by decide)) (t) (i_un (by omega)) (Int32.ofNat w) hwW ?_
      refine wp_if_icmp_ge_F k301_9 (i_lt (by omega) (by omega)) ?_
      refine wp_aload_n k301_12 rfl rfl ?_
      refine wp_aload_n k301_13 rfl rfl ?_
      refine wp_getR k301_14 (by decide) hM.o rfl ?_
      refine wp_iload_n k301_17 rfl rfl ?_
      refine wp_iconst 1 k301_18 (by decide) ?_
      refine wp_iadd k301_19 ?_
      refine wp_cast (show Int32.ofNat (t) + (1 : Int32) = Int32.ofNat (t + 1) from (Int32.ofNat_add _ 1).symm) ?_
      refine wp_iload_n k301_20 rfl rfl ?_
      refine wp_iadd k301_21 ?_
      refine wp_cast (i_add _ _) ?_
      refine wp_iaload k301_22 (by decide) (hM.a313) (i_inO (by omega) (by decide)) ((t + 1) + i) (i_un (by omega)) _ rfl ?_
      refine wp_cvn (st2 := []) k301_23 (EW _) (by decide) rfl rfl rfl rfl (by decide) hM.o (by decide) ?_
      refine wp_iinc (L1 := [_, _, _]) 1 k301_26 rfl (by decide) rfl ?_
      refine wp_goto k301_29 ?_
      rw [i_succ]
      exact ih (i + 1) _ (by omega) (f.t frw_w)
  have E : EVQ S 2 301 [.ref 312, .int (Int32.ofNat t)] (hH sh V) (fun v g => ∃ W, v = .inl none ∧ g = hH sh W ∧ FRW (o + w) V W) := by
    refine ev_of P301 rfl ?_
    refine wp_iconst 0 k301_0 (by decide) ?_
    refine wp_istore_n (L1 := [_, _, _]) k301_1 rfl rfl ?_
    exact key w 0 V rfl ⟨ho, fun _ _ _ => rfl, fun _ _ => rfl⟩
  obtain ⟨v, g, e, W, h1, h3, f⟩ := E
  subst h1 h3
  exact ⟨W, e, f⟩
theorem e_wnum {S : ww_S} {sh : List mm_C} {V : hV} (hM : MS sh) {o : Nat} (ho : V.1 312 26 = Int32.ofNat o) (h2 : o + 2 ≤ 2000) {x : Int32} : ∃ o2 W, EV S 2 302 [.ref 312, .int x] (hH sh V) (.inl none) (hH sh W) ∧ o2 ≤ o + 2 ∧ FRW o2 V W := by
  have E : EVQ S 2 302 [.ref 312, .int x] (hH sh V) (fun v g => ∃ o2 W, v = .inl none ∧ g = hH sh W ∧ o2 ≤ o + 2 ∧ FRW o2 V W) := by
    have EW := fun c => e_writes (S := S) (sh := sh) hM ho (by omega) (c := c)
    have EV2 := fun c d => e_writes (S := S) (sh := sh) (V := wrV V o d) (o := o + 1) hM frw_w.1 (by omega) (c := c)
    refine ev_of P302 rfl ?_
    by_cases c1 : (9 : Int32) < x
    · skip
      refine wp_iload_n k302_0 rfl rfl ?_
      refine wp_bipush 9 k302_1 (by decide) ?_
      refine wp_if_icmp_le_F k302_3 c1 ?_
      refine wp_aload_n k302_6 rfl rfl ?_
      refine wp_bipush 48 k302_7 (by decide) ?_
      refine wp_iload_n k302_9 rfl rfl ?_
      refine wp_bipush 10 k302_10 (by decide) ?_
      refine wp_idiv k302_12 (by decide) ?_
      refine wp_iadd k302_13 ?_
      refine wp_cvn (st2 := []) k302_14 (EW _) (by decide) rfl rfl rfl rfl (by decide) hM.o (by decide) ?_
      refine wp_aload_n k302_17 rfl rfl ?_
      refine wp_bipush 48 k302_18 (by decide) ?_
      refine wp_iload_n k302_20 rfl rfl ?_
      refine wp_bipush 10 k302_21 (by decide) ?_
      refine wp_irem k302_23 (by decide) ?_
      refine wp_iadd k302_24 ?_
      refine wp_cvn (st2 := []) k302_25 (EV2 _ _) (by decide) rfl rfl rfl rfl (by decide) hM.o (by decide) ?_
      exact wp_retN k302_28 rfl ⟨o + 2, _, rfl, rfl, by omega, frw_w.t frw_w⟩
    · skip
      refine wp_iload_n k302_0 rfl rfl ?_
      refine wp_bipush 9 k302_1 (by decide) ?_
      refine wp_if_icmp_le_T k302_3 c1 ?_
      refine wp_aload_n k302_17 rfl rfl ?_
      refine wp_bipush 48 k302_18 (by decide) ?_
      refine wp_iload_n k302_20 rfl rfl ?_
      refine wp_bipush 10 k302_21 (by decide) ?_
      refine wp_irem k302_23 (by decide) ?_
      refine wp_iadd k302_24 ?_
      refine wp_cvn (st2 := []) k302_25 (EW _) (by decide) rfl rfl rfl rfl (by decide) hM.o (by decide) ?_
      exact wp_retN k302_28 rfl ⟨o + 1, _, rfl, rfl, by omega, frw_w⟩
  obtain ⟨v, g, e, o2, W, h1, h3, f⟩ := E
  subst h1 h3
  exact ⟨o2, W, e, f⟩
theorem r_writeWorld {S : ww_S} {sh : List mm_C} {V : hV} (hM : MS sh) (hI : RI V) {x : Int32} : EVQ S 8 303 [.ref 312, .int x] (hH sh V) (rP sh V (V.1 312 10)) := by
  obtain ⟨l, pm, ol, bq, g1, g2, g3, g4, g5, g6, g7, g8, g9, g10⟩ := hI
  have hI : RI V := ⟨l, pm, ol, bq, g1, g2, g3, g4, g5, g6, g7, g8, g9, g10⟩
  obtain ⟨nf, n, rw, lg, m, cc, hnf, h5f, hn, hn1, h5, hrw, h32, hlg, hlg2, hfi, hc1, hc2, hTF, hnm, hre, hrf⟩ := g9
  have hF : FOK V n 313 320 m := hTF.fok h5 h5f
  have fin : ∀ (U W : hV) (o : Nat), FrQ V U → FRW o U W → o ≤ 2000 → ∀ y : Int32, rP sh V (V.1 312 10) (.inl (some (.int y))) (hH sh W) := fun U W o f g h y => ⟨y, W, rfl, rfl, ri_w g h (RI.q f hI), (g.2.2 10 (by decide)).trans (f.2.2 10 (by decide)), fun a h => (g.2.1 a (by omega) (by omega)).trans (f.z a h)⟩
  have key : ∀ (U : hV), FrQ V U → ∀ (g i : Nat) (W : hV) (o : Nat) (x2 : Int32), g + i = nf → o ≤ 4 + 8 * i → FRW o U W → WP S 7 mm_m303 54 [some (.ref 312), some (.int x), some (.int x2), some (.int (Int32.ofNat i))] [] (hH sh W) (rP sh V (V.1 312 10)) := by
    intro U fU g
    induction g with
    | zero =>
      intro i W o x2 hi ho f
      have hi : nf = i := by omega
      subst hi
      have EF := e_facts (S := S) (V := W) hM
      rw [f.2.1 313 (by decide) (by decide), fU.2.1 0 (by decide), hnf] at EF
      have EW := fun c => e_writes (S := S) (sh := sh) hM f.1 (by omega) (c := c)
      refine wp_iload_n k303_54 rfl rfl ?_
      refine wp_aload_n k303_55 rfl rfl ?_
      refine wp_cv (st2 := [_]) k303_56 EF (by decide) rfl rfl rfl rfl (by decide) hM.o (by decide) ?_
      refine wp_if_icmp_ge_T k303_59 (i_nlt (Nat.le_refl _) (by omega)) ?_
      refine wp_iload_n k303_102 rfl rfl ?_
      refine wp_if_eq k303_103 (fun c103 => ?_) (fun c103 => ?_)
      · refine wp_aload_n k303_112 rfl rfl ?_
        refine wp_getI k303_113 (by decide) hM.o rfl _ rfl ?_
        first
          | exact wp_retI k303_116 rfl (fin U _ _ fU f (by omega) _)
          | exact wp_retI k303_116 rfl (fin U _ _ fU (f.t frw_w) (by omega) _)
      · refine wp_aload_n k303_106 rfl rfl ?_
        refine wp_bipush 45 k303_107 (by decide) ?_
        refine wp_cvn (st2 := []) k303_109 (EW _) (by decide) rfl rfl rfl rfl (by decide) hM.o (by decide) ?_
        refine wp_aload_n k303_112 rfl rfl ?_
        refine wp_getI k303_113 (by decide) hM.o rfl _ rfl ?_
        first
          | exact wp_retI k303_116 rfl (fin U _ _ fU f (by omega) _)
          | exact wp_retI k303_116 rfl (fin U _ _ fU (f.t frw_w) (by omega) _)
    | succ g ih =>
      intro i W o x2 hi ho f
      have EF := e_facts (S := S) (V := W) hM
      rw [f.2.1 313 (by decide) (by decide), fU.2.1 0 (by decide), hnf] at EF
      have EW := fun c => e_writes (S := S) (sh := sh) hM f.1 (by omega) (c := c)
      obtain ⟨w, hw, hw2⟩ := (hnm i (by omega)).1
      have hwW : W.1 313 (80 + 7 * i) = Int32.ofNat w := (congrFun (f.2.1 313 (by decide) (by decide)) _).trans ((fU.2.1 _ (by omega)).trans hw2)
      obtain ⟨W2, E2, f2⟩ := e_wname (S := S) (sh := sh) (V := W) hM f.1 (t := 80 + 7 * i) (by omega) hwW hw (by omega)
      have hwV : ∀ c, (wrV W o c).1 313 (80 + 7 * i) = Int32.ofNat w := fun c => (congrFun ((frw_w (c := c)).2.1 313 (by decide) (by decide)) _).trans hwW
      by_cases c1 : hasB x (Int32.ofNat i) = true
      · by_cases c2 : x2 = 0
        · obtain ⟨W3, E3, f3⟩ := e_wname (S := S) (sh := sh) (V := wrV W o 43) (o := o + 1) hM frw_w.1 (t := 80 + 7 * i) (by omega) (hwV 43) hw (by omega)
          refine wp_iload_n k303_54 rfl rfl ?_
          refine wp_aload_n k303_55 rfl rfl ?_
          refine wp_cv (st2 := [_]) k303_56 EF (by decide) rfl rfl rfl rfl (by decide) hM.o (by decide) ?_
          refine wp_if_icmp_ge_F k303_59 (i_lt (by omega) (by omega)) ?_
          refine wp_iload_n k303_62 rfl rfl ?_
          refine wp_iload_n k303_63 rfl rfl ?_
          refine wp_cs (st2 := []) k303_64 (e_has) (by decide) rfl rfl rfl (by decide) ?_
          refine wp_if_ne_T k303_67 (bI_n0.mpr c1) ?_
          refine wp_iload_n k303_73 rfl rfl ?_
          refine wp_if_ne_F k303_74 c2 ?_
          refine wp_aload_n k303_77 rfl rfl ?_
          refine wp_bipush 43 k303_78 (by decide) ?_
          refine wp_cvn (st2 := []) k303_80 (EW _) (by decide) rfl rfl rfl rfl (by decide) hM.o (by decide) ?_
          refine wp_aload_n k303_83 rfl rfl ?_
          refine wp_bipush 80 k303_84 (by decide) ?_
          refine wp_bipush 7 k303_86 (by decide) ?_
          refine wp_iload_n k303_88 rfl rfl ?_
          refine wp_imul k303_89 ?_
          refine wp_cast (show (7 : Int32) * Int32.ofNat (i) = Int32.ofNat (7 * i) from (Int32.ofNat_mul 7 _).symm) ?_
          refine wp_iadd k303_90 ?_
          refine wp_cast (show (80 : Int32) + Int32.ofNat (7 * i) = Int32.ofNat (80 + (7 * i)) from (Int32.ofNat_add 80 _).symm) ?_
          refine wp_cvn (st2 := []) k303_91 E3 (by decide) rfl rfl rfl rfl (by decide) hM.o (by decide) ?_
          refine wp_iconst 0 k303_94 (by decide) ?_
          refine wp_istore_n (L1 := [_, _, _, _]) k303_95 rfl rfl ?_
          refine wp_iinc (L1 := [_, _, _, _]) 1 k303_96 rfl (by decide) rfl ?_
          refine wp_goto k303_99 ?_
          rw [i_succ]
          exact ih (i + 1) _ _ _ (by omega) (by omega) ((f.t frw_w).t f3)
        · skip
          refine wp_iload_n k303_54 rfl rfl ?_
          refine wp_aload_n k303_55 rfl rfl ?_
          refine wp_cv (st2 := [_]) k303_56 EF (by decide) rfl rfl rfl rfl (by decide) hM.o (by decide) ?_
          refine wp_if_icmp_ge_F k303_59 (i_lt (by omega) (by omega)) ?_
          refine wp_iload_n k303_62 rfl rfl ?_
          refine wp_iload_n k303_63 rfl rfl ?_
          refine wp_cs (st2 := []) k303_64 (e_has) (by decide) rfl rfl rfl (by decide) ?_
          refine wp_if_ne_T k303_67 (bI_n0.mpr c1) ?_
          refine wp_iload_n k303_73 rfl rfl ?_
          refine wp_if_ne_T k303_74 c2 ?_
          refine wp_aload_n k303_83 rfl rfl ?_
          refine wp_bipush 80 k303_84 (by decide) ?_
          refine wp_bipush 7 k303_86 (by decide) ?_
          refine wp_iload_n k303_88 rfl rfl ?_
          refine wp_imul k303_89 ?_
          refine wp_cast (show (7 : Int32) * Int32.ofNat (i) = Int32.ofNat (7 * i) from (Int32.ofNat_mul 7 _).symm) ?_
          refine wp_iadd k303_90 ?_
          refine wp_cast (show (80 : Int32) + Int32.ofNat (7 * i) = Int32.ofNat (80 + (7 * i)) from (Int32.ofNat_add 80 _).symm) ?_
          refine wp_cvn (st2 := []) k303_91 E2 (by decide) rfl rfl rfl rfl (by decide) hM.o (by decide) ?_
          refine wp_iconst 0 k303_94 (by decide) ?_
          refine wp_istore_n (L1 := [_, _, _, _]) k303_95 rfl rfl ?_
          refine wp_iinc (L1 := [_, _, _, _]) 1 k303_96 rfl (by decide) rfl ?_
          refine wp_goto k303_99 ?_
          rw [i_succ]
          exact ih (i + 1) _ _ _ (by omega) (by omega) (f.t f2)
      · skip
        refine wp_iload_n k303_54 rfl rfl ?_
        refine wp_aload_n k303_55 rfl rfl ?_
        refine wp_cv (st2 := [_]) k303_56 EF (by decide) rfl rfl rfl rfl (by decide) hM.o (by decide) ?_
        refine wp_if_icmp_ge_F k303_59 (i_lt (by omega) (by omega)) ?_
        refine wp_iload_n k303_62 rfl rfl ?_
        refine wp_iload_n k303_63 rfl rfl ?_
        refine wp_cs (st2 := []) k303_64 (e_has) (by decide) rfl rfl rfl (by decide) ?_
        refine wp_if_ne_F k303_67 (bI_0.mpr (Bool.eq_false_iff.mpr c1)) ?_
        refine wp_goto k303_70 ?_
        refine wp_iinc (L1 := [_, _, _, _]) 1 k303_96 rfl (by decide) rfl ?_
        refine wp_goto k303_99 ?_
        rw [i_succ]
        exact ih (i + 1) _ _ _ (by omega) (by omega) f
  obtain ⟨U, hU⟩ : ∃ U, up V 312 6 (bI (!inI x 0 (1 <<< (V.1 313 0 &&& 31) - 1))) = U := ⟨_, rfl⟩
  have fU : FrQ V U := by rw [← hU]; exact fq_6
  have f0 : FRW 0 U (up U 312 26 0) := ⟨up_eq _ _ _ _, fun a h1 _ => funext fun j => up_ne _ _ (Or.inl h1), fun k hk => up_ne _ _ (Or.inr hk)⟩
  obtain ⟨W2, E2, f2⟩ := e_wtext (S := S) (sh := sh) (V := up U 312 26 0) (o := 0) hM f0.1 XS46 (by decide)
  have EA := e_writes (S := S) (sh := sh) hM f0.1 (by decide) (c := 33)
  have EB := e_writes (S := S) (sh := sh) hM f2.1 (by decide) (c := 33)
  have f2' := f0.t f2
  have e24 : W2.1 313 4 = U.1 313 4 := congrFun (f2'.2.1 313 (by decide) (by decide)) 4
  have go14 : WP S 7 mm_m303 14 [some (.ref 312), some (.int x), none, none] [] (hH sh U) (rP sh V (V.1 312 10)) := by
    by_cases c1 : hasB (U.1 313 2) x = true
    · by_cases c2 : x = U.1 313 4
      · skip
        refine wp_aload_n k303_14 rfl rfl ?_
        refine wp_iconst 0 k303_15 (by decide) ?_
        refine wp_putI k303_16 (by decide) hM.o rfl rfl rfl ?_
        refine wp_aload_n k303_19 rfl rfl ?_
        refine wp_iload_n k303_20 rfl rfl ?_
        refine wp_cv (st2 := []) k303_21 (e_isLeft hM) (by decide) rfl rfl rfl rfl (by decide) hM.o (by decide) ?_
        refine wp_if_ne_T k303_24 (bI_n0.mpr c1) ?_
        refine wp_iload_n k303_34 rfl rfl ?_
        refine wp_aload_n k303_35 rfl rfl ?_
        refine wp_getR k303_36 (by decide) hM.o rfl ?_
        refine wp_iconst 4 k303_39 (by decide) ?_
        refine wp_iaload k303_40 (by decide) (hM.a313) (by decide) 4 (by decide) _ rfl ?_
        refine wp_if_icmp_ne_F k303_41 c2 ?_
        refine wp_aload_n k303_44 rfl rfl ?_
        refine wp_bipush 33 k303_45 (by decide) ?_
        refine wp_cvn (st2 := []) k303_47 EA (by decide) rfl rfl rfl rfl (by decide) hM.o (by decide) ?_
        refine wp_iconst 1 k303_50 (by decide) ?_
        refine wp_istore_n (L1 := [_, _, _, _]) k303_51 rfl rfl ?_
        refine wp_iconst 0 k303_52 (by decide) ?_
        refine wp_istore_n (L1 := [_, _, _, _]) k303_53 rfl rfl ?_
        exact key U fU nf 0 _ _ _ rfl (by decide) (f0.t frw_w)
      · skip
        refine wp_aload_n k303_14 rfl rfl ?_
        refine wp_iconst 0 k303_15 (by decide) ?_
        refine wp_putI k303_16 (by decide) hM.o rfl rfl rfl ?_
        refine wp_aload_n k303_19 rfl rfl ?_
        refine wp_iload_n k303_20 rfl rfl ?_
        refine wp_cv (st2 := []) k303_21 (e_isLeft hM) (by decide) rfl rfl rfl rfl (by decide) hM.o (by decide) ?_
        refine wp_if_ne_T k303_24 (bI_n0.mpr c1) ?_
        refine wp_iload_n k303_34 rfl rfl ?_
        refine wp_aload_n k303_35 rfl rfl ?_
        refine wp_getR k303_36 (by decide) hM.o rfl ?_
        refine wp_iconst 4 k303_39 (by decide) ?_
        refine wp_iaload k303_40 (by decide) (hM.a313) (by decide) 4 (by decide) _ rfl ?_
        refine wp_if_icmp_ne_T k303_41 c2 ?_
        refine wp_iconst 1 k303_50 (by decide) ?_
        refine wp_istore_n (L1 := [_, _, _, _]) k303_51 rfl rfl ?_
        refine wp_iconst 0 k303_52 (by decide) ?_
        refine wp_istore_n (L1 := [_, _, _, _]) k303_53 rfl rfl ?_
        exact key U fU nf 0 _ _ _ rfl (by decide) f0
    · by_cases c2 : x = U.1 313 4
      · skip
        refine wp_aload_n k303_14 rfl rfl ?_
        refine wp_iconst 0 k303_15 (by decide) ?_
        refine wp_putI k303_16 (by decide) hM.o rfl rfl rfl ?_
        refine wp_aload_n k303_19 rfl rfl ?_
        refine wp_iload_n k303_20 rfl rfl ?_
        refine wp_cv (st2 := []) k303_21 (e_isLeft hM) (by decide) rfl rfl rfl rfl (by decide) hM.o (by decide) ?_
        refine wp_if_ne_F k303_24 (bI_0.mpr (Bool.eq_false_iff.mpr c1)) ?_
        refine wp_aload_n k303_27 rfl rfl ?_
        refine wp_ldc_wR k303_28 ?_
        refine wp_cvn (st2 := []) k303_31 E2 (by decide) rfl rfl rfl rfl (by decide) hM.o (by decide) ?_
        refine wp_iload_n k303_34 rfl rfl ?_
        refine wp_aload_n k303_35 rfl rfl ?_
        refine wp_getR k303_36 (by decide) hM.o rfl ?_
        refine wp_iconst 4 k303_39 (by decide) ?_
        refine wp_iaload k303_40 (by decide) (hM.a313) (by decide) 4 (by decide) _ rfl ?_
        refine wp_if_icmp_ne_F k303_41 (by rw [e24]; exact c2) ?_
        refine wp_aload_n k303_44 rfl rfl ?_
        refine wp_bipush 33 k303_45 (by decide) ?_
        refine wp_cvn (st2 := []) k303_47 EB (by decide) rfl rfl rfl rfl (by decide) hM.o (by decide) ?_
        refine wp_iconst 1 k303_50 (by decide) ?_
        refine wp_istore_n (L1 := [_, _, _, _]) k303_51 rfl rfl ?_
        refine wp_iconst 0 k303_52 (by decide) ?_
        refine wp_istore_n (L1 := [_, _, _, _]) k303_53 rfl rfl ?_
        exact key U fU nf 0 _ _ _ rfl (by decide) (f2'.t frw_w)
      · skip
        refine wp_aload_n k303_14 rfl rfl ?_
        refine wp_iconst 0 k303_15 (by decide) ?_
        refine wp_putI k303_16 (by decide) hM.o rfl rfl rfl ?_
        refine wp_aload_n k303_19 rfl rfl ?_
        refine wp_iload_n k303_20 rfl rfl ?_
        refine wp_cv (st2 := []) k303_21 (e_isLeft hM) (by decide) rfl rfl rfl rfl (by decide) hM.o (by decide) ?_
        refine wp_if_ne_F k303_24 (bI_0.mpr (Bool.eq_false_iff.mpr c1)) ?_
        refine wp_aload_n k303_27 rfl rfl ?_
        refine wp_ldc_wR k303_28 ?_
        refine wp_cvn (st2 := []) k303_31 E2 (by decide) rfl rfl rfl rfl (by decide) hM.o (by decide) ?_
        refine wp_iload_n k303_34 rfl rfl ?_
        refine wp_aload_n k303_35 rfl rfl ?_
        refine wp_getR k303_36 (by decide) hM.o rfl ?_
        refine wp_iconst 4 k303_39 (by decide) ?_
        refine wp_iaload k303_40 (by decide) (hM.a313) (by decide) 4 (by decide) _ rfl ?_
        refine wp_if_icmp_ne_T k303_41 (by rw [e24]; exact c2) ?_
        refine wp_iconst 1 k303_50 (by decide) ?_
        refine wp_istore_n (L1 := [_, _, _, _]) k303_51 rfl rfl ?_
        refine wp_iconst 0 k303_52 (by decide) ?_
        refine wp_istore_n (L1 := [_, _, _, _]) k303_53 rfl rfl ?_
        exact key U fU nf 0 _ _ _ rfl (by decide) f2'
  refine ev_of P303 rfl ?_
  refine wp_aload_n k303_0 rfl rfl ?_
  refine wp_aload_n k303_1 rfl rfl ?_
  refine wp_iload_n k303_2 rfl rfl ?_
  refine wp_cv (st2 := [_]) k303_3 (e_isWorld hM) (by decide) rfl rfl rfl rfl (by decide) hM.o (by decide) ?_
  refine wp_cv (st2 := []) k303_6 (e_passes hM) (by decide) rfl rfl rfl rfl (by decide) hM.o (by decide) ?_
  refine wp_if_ne k303_9 (fun c9 => ?_) (fun c9 => ?_)
  · rw [hU]
    exact go14
  · refine wp_iconst 0 k303_12 (by decide) ?_
    exact wp_retI k303_13 rfl ⟨0, _, rfl, rfl, RI.q fq_6 hI, rfl, FrQ.z fq_6⟩
end M59
