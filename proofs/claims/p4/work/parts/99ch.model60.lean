section M60
/-! ===== the reference: what is written: kinds, the question ===== -/
def bk : Nat → Nat
  | 0 => 0
  | i + 1 => bk i + 1 + 3 * (32 - i)
theorem bk_le : ∀ i : Fin 33, bk i.val ≤ 1616 := by decide
theorem e_wkind {S : ww_S} {sh : List mm_C} {V : hV} (hM : MS sh) {o : Nat} (ho : V.1 312 26 = Int32.ofNat o) {p w : Nat} (hp : p < 5) (hw : w < 32) (h2 : o + 3 * (32 - w) ≤ 2000) : ∃ o2 W, EV S 4 304 [.ref 312, .int (Int32.ofNat p), .int (Int32.ofNat w)] (hH sh V) (.inl none) (hH sh W) ∧ o2 ≤ o + 3 * (32 - w) ∧ FRW o2 V W := by
  have key : ∀ (g i : Nat) (W : hV) (o1 : Nat) (set : Int32), g + i = 32 → o1 + 3 * g ≤ o + 3 * (32 - w) → FRW o1 V W → WP S 3 mm_m304 10 [some (.ref 312), some (.int (Int32.ofNat p)), some (.int (Int32.ofNat w)), some (.int set), some (.int (Int32.ofNat i))] [] (hH sh W) (fun v g => ∃ o2 W, v = .inl none ∧ g = hH sh W ∧ o2 ≤ o + 3 * (32 - w) ∧ FRW o2 V W) := by
    intro g
    induction g with
    | zero =>
      intro i W o1 set hi h3 f
      have hi : 32 = i := by omega
      subst hi
      refine wp_iload k304_10 rfl rfl ?_
      refine wp_bipush 32 k304_12 (by decide) ?_
      refine wp_if_icmp_ge_T k304_14 (i_nlt (k := 32) (n := 32) (by decide) (by decide)) ?_
      exact wp_retN k304_53 rfl ⟨o1, W, rfl, rfl, by omega, f⟩
    | succ g ih =>
      intro i W o1 set hi h3 f
      by_cases c1 : hasB set (Int32.ofNat i) = true
      · by_cases c2 : w < i
        · have EW := e_writes (S := S) (sh := sh) hM f.1 (by omega) (c := 32)
          obtain ⟨o2, W2, E2, q2, f2⟩ := e_wnum (S := S) (sh := sh) (V := wrV W o1 32) (o := o1 + 1) hM frw_w.1 (by omega) (x := Int32.ofNat i)
          refine wp_iload k304_10 rfl rfl ?_
          refine wp_bipush 32 k304_12 (by decide) ?_
          refine wp_if_icmp_ge_F k304_14 (i_lt (n := 32) (by omega) (by decide)) ?_
          refine wp_iload_n k304_17 rfl rfl ?_
          refine wp_iload k304_18 rfl rfl ?_
          refine wp_cs (st2 := []) k304_20 (e_has) (by decide) rfl rfl rfl (by decide) ?_
          refine wp_if_ne_T k304_23 (bI_n0.mpr c1) ?_
          refine wp_iload k304_29 rfl rfl ?_
          refine wp_iload_n k304_31 rfl rfl ?_
          refine wp_if_icmp_le_F k304_32 (i_lt c2 (by omega)) ?_
          refine wp_aload_n k304_35 rfl rfl ?_
          refine wp_bipush 32 k304_36 (by decide) ?_
          refine wp_cvn (st2 := []) k304_38 EW (by decide) rfl rfl rfl rfl (by decide) hM.o (by decide) ?_
          refine wp_aload_n k304_41 rfl rfl ?_
          refine wp_iload k304_42 rfl rfl ?_
          refine wp_cvn (st2 := []) k304_44 E2 (by decide) rfl rfl rfl rfl (by decide) hM.o (by decide) ?_
          refine wp_iinc (L1 := [_, _, _, _, _]) 1 k304_47 rfl (by decide) rfl ?_
          refine wp_goto k304_50 ?_
          rw [i_succ]
          exact ih (i + 1) _ _ _ (by omega) (by omega) ((f.t frw_w).t f2)
        · obtain ⟨o2, W2, E2, q2, f2⟩ := e_wnum (S := S) (sh := sh) (V := W) (o := o1) hM f.1 (by omega) (x := Int32.ofNat i)
          refine wp_iload k304_10 rfl rfl ?_
          refine wp_bipush 32 k304_12 (by decide) ?_
          refine wp_if_icmp_ge_F k304_14 (i_lt (n := 32) (by omega) (by decide)) ?_
          refine wp_iload_n k304_17 rfl rfl ?_
          refine wp_iload k304_18 rfl rfl ?_
          refine wp_cs (st2 := []) k304_20 (e_has) (by decide) rfl rfl rfl (by decide) ?_
          refine wp_if_ne_T k304_23 (bI_n0.mpr c1) ?_
          refine wp_iload k304_29 rfl rfl ?_
          refine wp_iload_n k304_31 rfl rfl ?_
          refine wp_if_icmp_le_T k304_32 (i_nlt (by omega) (by omega)) ?_
          refine wp_aload_n k304_41 rfl rfl ?_
          refine wp_iload k304_42 rfl rfl ?_
          refine wp_cvn (st2 := []) k304_44 E2 (by decide) rfl rfl rfl rfl (by decide) hM.o (by decide) ?_
          refine wp_iinc (L1 := [_, _, _, _, _]) 1 k304_47 rfl (by decide) rfl ?_
          refine wp_goto k304_50 ?_
          rw [i_succ]
          exact ih (i + 1) _ _ _ (by omega) (by omega) (f.t f2)
      · skip
        refine wp_iload k304_10 rfl rfl ?_
        refine wp_bipush 32 k304_12 (by decide) ?_
        refine wp_if_icmp_ge_F k304_14 (i_lt (n := 32) (by omega) (by decide)) ?_
        refine wp_iload_n k304_17 rfl rfl ?_
        refine wp_iload k304_18 rfl rfl ?_
        refine wp_cs (st2 := []) k304_20 (e_has) (by decide) rfl rfl rfl (by decide) ?_
        refine wp_if_ne_F k304_23 (bI_0.mpr (Bool.eq_false_iff.mpr c1)) ?_
        refine wp_goto k304_26 ?_
        refine wp_iinc (L1 := [_, _, _, _, _]) 1 k304_47 rfl (by decide) rfl ?_
        refine wp_goto k304_50 ?_
        rw [i_succ]
        exact ih (i + 1) _ _ _ (by omega) (by omega) f
  have E : EVQ S 4 304 [.ref 312, .int (Int32.ofNat p), .int (Int32.ofNat w)] (hH sh V) (fun v g => ∃ o2 W, v = .inl none ∧ g = hH sh W ∧ o2 ≤ o + 3 * (32 - w) ∧ FRW o2 V W) := by
    refine ev_of P304 rfl ?_
    refine wp_aload_n k304_0 rfl rfl ?_
    refine wp_iload_n k304_1 rfl rfl ?_
    refine wp_iload_n k304_2 rfl rfl ?_
    refine wp_cv (st2 := []) k304_3 (e_alikeTo hM (p := p) (w := w) hp hw) (by decide) rfl rfl rfl rfl (by decide) hM.o (by decide) ?_
    refine wp_istore_n (L1 := [_, _, _, _, _]) k304_6 rfl rfl ?_
    refine wp_iload_n k304_7 rfl rfl ?_
    refine wp_istore (L1 := [_, _, _, _, _]) k304_8 rfl rfl ?_
    exact key (32 - w) w V o _ (by omega) (by omega) ⟨ho, fun _ _ _ => rfl, fun _ _ => rfl⟩
  obtain ⟨v, g, e, o2, W, h1, h3, f⟩ := E
  subst h1 h3
  exact ⟨o2, W, e, f⟩
theorem r_writeKinds {S : ww_S} {sh : List mm_C} {V : hV} (hM : MS sh) (hI : RI V) {x : Int32} : EVQ S 8 305 [.ref 312, .int x] (hH sh V) (rP sh V (V.1 312 10)) := by
  obtain ⟨l, pm, ol, bq, g1, g2, g3, g4, g5, g6, g7, g8, g9, g10⟩ := hI
  have hI : RI V := ⟨l, pm, ol, bq, g1, g2, g3, g4, g5, g6, g7, g8, g9, g10⟩
  have fin : ∀ (U W : hV) (o : Nat), FrQ V U → FRW o U W → o ≤ 2000 → ∀ y : Int32, rP sh V (V.1 312 10) (.inl (some (.int y))) (hH sh W) := fun U W o f g h y => ⟨y, W, rfl, rfl, ri_w g h (RI.q f hI), (g.2.2 10 (by decide)).trans (f.2.2 10 (by decide)), fun a h => (g.2.1 a (by omega) (by omega)).trans (f.z a h)⟩
  have key : ∀ (U : hV) (p : Nat), p < 5 → FrQ V U → ∀ (g i : Nat) (W : hV) (o : Nat), g + i = 32 → o ≤ bk i → FRW o U W → WP S 7 mm_m305 21 [some (.ref 312), some (.int (Int32.ofNat p)), some (.int (Int32.ofNat i))] [] (hH sh W) (rP sh V (V.1 312 10)) := by
    intro U p hp fU g
    induction g with
    | zero =>
      intro i W o hi ho f
      have hi : 32 = i := by omega
      subst hi
      have hb := bk_le ⟨32, by decide⟩
      refine wp_iload_n k305_21 rfl rfl ?_
      refine wp_bipush 32 k305_22 (by decide) ?_
      refine wp_if_icmp_ge_T k305_24 (i_nlt (k := 32) (n := 32) (by decide) (by decide)) ?_
      refine wp_aload_n k305_64 rfl rfl ?_
      refine wp_getI k305_65 (by decide) hM.o rfl _ rfl ?_
      exact wp_retI k305_68 rfl (fin U _ _ fU f (Nat.le_trans ho (Nat.le_trans hb (by decide))) _)
    | succ g ih =>
      intro i W o hi ho f
      have hb := bk_le ⟨i + 1, by omega⟩
      have hb : bk i + 1 + 3 * (32 - i) ≤ 1616 := hb
      have hk : bk (i + 1) = bk i + 1 + 3 * (32 - i) := rfl
      obtain ⟨b, EF⟩ := e_firstOf (S := S) (sh := sh) (V := W) hM hp (w := i) (by omega)
      cases b with
      | false =>
        refine wp_iload_n k305_21 rfl rfl ?_
        refine wp_bipush 32 k305_22 (by decide) ?_
        refine wp_if_icmp_ge_F k305_24 (i_lt (n := 32) (by omega) (by decide)) ?_
        refine wp_aload_n k305_27 rfl rfl ?_
        refine wp_iload_n k305_28 rfl rfl ?_
        refine wp_iload_n k305_29 rfl rfl ?_
        refine wp_cv (st2 := []) k305_30 EF (by decide) rfl rfl rfl rfl (by decide) hM.o (by decide) ?_
        refine wp_if_ne_F k305_33 rfl ?_
        refine wp_goto k305_36 ?_
        refine wp_iinc (L1 := [_, _, _]) 1 k305_58 rfl (by decide) rfl ?_
        refine wp_goto k305_61 ?_
        rw [i_succ]
        exact ih (i + 1) _ _ (by omega) (by omega) f
      | true =>
        by_cases c2 : 0 < o
        · have EW := e_writes (S := S) (sh := sh) hM f.1 (by omega) (c := 124)
          obtain ⟨o2, W2, E2, q2, f2⟩ := e_wkind (S := S) (sh := sh) (V := wrV W o 124) (o := o + 1) hM frw_w.1 hp (w := i) (by omega) (by omega)
          refine wp_iload_n k305_21 rfl rfl ?_
          refine wp_bipush 32 k305_22 (by decide) ?_
          refine wp_if_icmp_ge_F k305_24 (i_lt (n := 32) (by omega) (by decide)) ?_
          refine wp_aload_n k305_27 rfl rfl ?_
          refine wp_iload_n k305_28 rfl rfl ?_
          refine wp_iload_n k305_29 rfl rfl ?_
          refine wp_cv (st2 := []) k305_30 EF (by decide) rfl rfl rfl rfl (by decide) hM.o (by decide) ?_
          refine wp_if_ne_T k305_33 (by decide) ?_
          refine wp_aload_n k305_39 rfl rfl ?_
          refine wp_getI k305_40 (by decide) hM.o rfl (Int32.ofNat o) f.1 ?_
          refine wp_if_le_F k305_43 (i_lt (k := 0) c2 (by omega)) ?_
          refine wp_aload_n k305_46 rfl rfl ?_
          refine wp_bipush 124 k305_47 (by decide) ?_
          refine wp_cvn (st2 := []) k305_49 EW (by decide) rfl rfl rfl rfl (by decide) hM.o (by decide) ?_
          refine wp_aload_n k305_52 rfl rfl ?_
          refine wp_iload_n k305_53 rfl rfl ?_
          refine wp_iload_n k305_54 rfl rfl ?_
          refine wp_cvn (st2 := []) k305_55 E2 (by decide) rfl rfl rfl rfl (by decide) hM.o (by decide) ?_
          refine wp_iinc (L1 := [_, _, _]) 1 k305_58 rfl (by decide) rfl ?_
          refine wp_goto k305_61 ?_
          rw [i_succ]
          exact ih (i + 1) _ _ (by omega) (by omega) ((f.t frw_w).t f2)
        · obtain ⟨o2, W2, E2, q2, f2⟩ := e_wkind (S := S) (sh := sh) (V := W) (o := o) hM f.1 hp (w := i) (by omega) (by omega)
          refine wp_iload_n k305_21 rfl rfl ?_
          refine wp_bipush 32 k305_22 (by decide) ?_
          refine wp_if_icmp_ge_F k305_24 (i_lt (n := 32) (by omega) (by decide)) ?_
          refine wp_aload_n k305_27 rfl rfl ?_
          refine wp_iload_n k305_28 rfl rfl ?_
          refine wp_iload_n k305_29 rfl rfl ?_
          refine wp_cv (st2 := []) k305_30 EF (by decide) rfl rfl rfl rfl (by decide) hM.o (by decide) ?_
          refine wp_if_ne_T k305_33 (by decide) ?_
          refine wp_aload_n k305_39 rfl rfl ?_
          refine wp_getI k305_40 (by decide) hM.o rfl (Int32.ofNat o) f.1 ?_
          refine wp_if_le_T k305_43 (i_nlt (k := 0) (n := o) (by omega) (by omega)) ?_
          refine wp_aload_n k305_52 rfl rfl ?_
          refine wp_iload_n k305_53 rfl rfl ?_
          refine wp_iload_n k305_54 rfl rfl ?_
          refine wp_cvn (st2 := []) k305_55 E2 (by decide) rfl rfl rfl rfl (by decide) hM.o (by decide) ?_
          refine wp_iinc (L1 := [_, _, _]) 1 k305_58 rfl (by decide) rfl ?_
          refine wp_goto k305_61 ?_
          rw [i_succ]
          exact ih (i + 1) _ _ (by omega) (by omega) (f.t f2)
  obtain ⟨nf, n, rw, lg, m, cc, hnf, h5f, hn, hn1, h5, hrw, h32, hlg, hlg2, hfi, hc1, hc2, hTF, hnm, hre, hrf⟩ := g9
  refine ev_of P305 rfl ?_
  by_cases hb : inI x 0 (V.1 313 1 - 1) = true
  · obtain ⟨k, hk, _, he⟩ := pe_of hn h5 hb
    subst he
    obtain ⟨U, hU⟩ : ∃ U, up V 312 6 (bI (!inI (Int32.ofNat k) 0 (V.1 313 1 - 1))) = U := ⟨_, rfl⟩
    have fU : FrQ V U := by rw [← hU]; exact fq_6
    have f0 : FRW 0 U (up U 312 26 0) := ⟨up_eq _ _ _ _, fun a h1 _ => funext fun j => up_ne _ _ (Or.inl h1), fun k hk => up_ne _ _ (Or.inr hk)⟩
    refine wp_aload_n k305_0 rfl rfl ?_
    refine wp_aload_n k305_1 rfl rfl ?_
    refine wp_iload_n k305_2 rfl rfl ?_
    refine wp_cv (st2 := [_]) k305_3 (e_isPerson hM) (by decide) rfl rfl rfl rfl (by decide) hM.o (by decide) ?_
    refine wp_cv (st2 := []) k305_6 (e_passes hM) (by decide) rfl rfl rfl rfl (by decide) hM.o (by decide) ?_
    refine wp_if_ne_T k305_9 (bI_n0.mpr hb) ?_
    rw [hU]
    skip
    refine wp_aload_n k305_14 rfl rfl ?_
    refine wp_iconst 0 k305_15 (by decide) ?_
    refine wp_putI k305_16 (by decide) hM.o rfl rfl rfl ?_
    refine wp_iconst 0 k305_19 (by decide) ?_
    refine wp_istore_n (L1 := [_, _, _]) k305_20 rfl rfl ?_
    exact key U k hk fU 32 0 _ 0 rfl (Nat.zero_le _) f0
  · skip
    refine wp_aload_n k305_0 rfl rfl ?_
    refine wp_aload_n k305_1 rfl rfl ?_
    refine wp_iload_n k305_2 rfl rfl ?_
    refine wp_cv (st2 := [_]) k305_3 (e_isPerson hM) (by decide) rfl rfl rfl rfl (by decide) hM.o (by decide) ?_
    refine wp_cv (st2 := []) k305_6 (e_passes hM) (by decide) rfl rfl rfl rfl (by decide) hM.o (by decide) ?_
    refine wp_if_ne_F k305_9 (bI_0.mpr (Bool.eq_false_iff.mpr hb)) ?_
    refine wp_iconst 0 k305_12 (by decide) ?_
    exact wp_retI k305_13 rfl ⟨0, _, rfl, rfl, RI.q fq_6 hI, rfl, FrQ.z fq_6⟩
end M60
