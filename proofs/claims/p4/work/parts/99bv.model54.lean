section M54
/-! ===== the reference: undo, save, restore; append, truncate ===== -/
def byS (x k : Int32) : Int32 := x >>> (k &&& 31) &&& 255
def rd1 (V : hV) (l : Nat) (y : Int32) : hV := up (up V 319 l y) 312 10 (Int32.ofNat (l + 1))
def rdV (V : hV) (l : Nat) (x : Int32) : hV := rd1 (rd1 (rd1 (rd1 V l (byS x 24)) (l + 1) (byS x (24 + -8))) (l + 2) (byS x (24 + -8 + -8))) (l + 3) (byS x (24 + -8 + -8 + -8))
def rpV (V : hV) (l : Nat) (a b c d e : Int32) : hV := rdV (rdV (rdV (rdV (rdV V l a) (l + 4) b) (l + 8) c) (l + 12) d) (l + 16) e
def FL (l : Nat) (V W : hV) : Prop := W.1 312 10 = Int32.ofNat l ∧ (∀ a, a ≠ 312 → a ≠ 319 → W.1 a = V.1 a) ∧ ∀ k, k ≠ 10 → W.1 312 k = V.1 312 k
theorem FL.t {l m : Nat} {A B C : hV} (h1 : FL l A B) (h2 : FL m B C) : FL m A C := ⟨h2.1, fun a z1 z2 => (h2.2.1 a z1 z2).trans (h1.2.1 a z1 z2), fun k z => (h2.2.2 k z).trans (h1.2.2 k z)⟩
theorem fl_s {l m : Nat} {V W : hV} {i : Nat} {x : Int32} (h : FL l V W) : FL m V (up (up W 319 i x) 312 10 (Int32.ofNat m)) := ⟨up_eq _ _ _ _, fun a h1 h2 => (funext fun j => up_ne _ _ (Or.inl h1)).trans ((funext fun j => up_ne _ _ (Or.inl h2)).trans (h.2.1 a h1 h2)), fun k hk => (up_ne _ _ (Or.inr hk)).trans ((up_ne _ _ (Or.inl (by decide))).trans (h.2.2 k hk))⟩
theorem RI.fl {l : Nat} {V W : hV} (f : FL l V W) (h6 : l ≤ 600) (h : RI V) : RI W := by
  obtain ⟨l0, pm, ol, b, h1, h2, h3, h4, h5, h6', h7, h8, h9, h10⟩ := h
  refine ⟨l, pm, ol, b, f.1, h6, (f.2.2 5 (by decide)).trans h3, h4, (f.2.2 26 (by decide)).trans h5, h6', (f.2.2 7 (by decide)).trans h7, fun z => ?_, ?_, h10.cg (f.2.1 317 (by decide) (by decide))⟩
  · rw [f.2.1 314 (by decide) (by decide)]
    exact h8 z
  · rw [f.2.1 313 (by decide) (by decide)]
    exact h9
theorem e_four {S : ww_S} {sh : List mm_C} {V : hV} (hM : MS sh) {l : Nat} (hl : V.1 312 10 = Int32.ofNat l) (h6 : l + 4 ≤ 600) {x : Int32} : ∃ W, EV S 1 198 [.ref 312, .int x] (hH sh V) (.inl none) (hH sh W) ∧ FL (l + 4) V W ∧ W.2 = V.2 ∧ W = rdV V l x := by
  have f0 : FL l V V := ⟨hl, fun _ _ _ => rfl, fun _ _ => rfl⟩
  have E : EVQ S 1 198 [.ref 312, .int x] (hH sh V) (fun v g => ∃ W, v = .inl none ∧ g = hH sh W ∧ FL (l + 4) V W ∧ W.2 = V.2 ∧ W = rdV V l x) := by
    refine ev_of P198 rfl ?_
    refine wp_bipush 24 k198_0 (by decide) ?_
    refine wp_istore_n (L1 := [_, _, _]) k198_2 rfl rfl ?_
    refine wp_iload_n k198_3 rfl rfl ?_
    refine wp_if_lt_F k198_4 (by decide) ?_
    refine wp_aload_n k198_7 rfl rfl ?_
    refine wp_getR k198_8 (by decide) hM.o rfl ?_
    refine wp_aload_n k198_11 rfl rfl ?_
    refine wp_getI k198_12 (by decide) hM.o rfl (Int32.ofNat (l)) hl ?_
    refine wp_iload_n k198_15 rfl rfl ?_
    refine wp_iload_n k198_16 rfl rfl ?_
    refine wp_ishr k198_17 ?_
    refine wp_sipush 255 k198_18 (by decide) ?_
    refine wp_iand k198_21 ?_
    refine wp_iastore k198_22 (by decide) (hM.a319) (i_inO (by omega) (by decide)) (l) (i_un (by omega)) ?_
    refine wp_aload_n k198_23 rfl rfl ?_
    refine wp_dup k198_24 rfl ?_
    refine wp_getI k198_25 (by decide) hM.o rfl (Int32.ofNat (l)) ((up_ne _ _ (Or.inl (by decide))).trans hl) ?_
    refine wp_iconst 1 k198_28 (by decide) ?_
    refine wp_iadd k198_29 ?_
    refine wp_cast (show Int32.ofNat (l) + (1 : Int32) = Int32.ofNat (l + 1) from (Int32.ofNat_add _ 1).symm) ?_
    refine wp_putI k198_30 (by decide) hM.o rfl rfl rfl ?_
    refine wp_iinc (L1 := [_, _, _]) (-8) k198_33 rfl (by decide) rfl ?_
    refine wp_goto k198_36 ?_
    refine wp_iload_n k198_3 rfl rfl ?_
    refine wp_if_lt_F k198_4 (by decide) ?_
    refine wp_aload_n k198_7 rfl rfl ?_
    refine wp_getR k198_8 (by decide) hM.o rfl ?_
    refine wp_aload_n k198_11 rfl rfl ?_
    refine wp_getI k198_12 (by decide) hM.o rfl (Int32.ofNat (l + 1)) (up_eq _ _ _ _) ?_
    refine wp_iload_n k198_15 rfl rfl ?_
    refine wp_iload_n k198_16 rfl rfl ?_
    refine wp_ishr k198_17 ?_
    refine wp_sipush 255 k198_18 (by decide) ?_
    refine wp_iand k198_21 ?_
    refine wp_iastore k198_22 (by decide) (hM.a319) (i_inO (by omega) (by decide)) (l + 1) (i_un (by omega)) ?_
    refine wp_aload_n k198_23 rfl rfl ?_
    refine wp_dup k198_24 rfl ?_
    refine wp_getI k198_25 (by decide) hM.o rfl (Int32.ofNat (l + 1)) ((up_ne _ _ (Or.inl (by decide))).trans (up_eq _ _ _ _)) ?_
    refine wp_iconst 1 k198_28 (by decide) ?_
    refine wp_iadd k198_29 ?_
    refine wp_cast (show Int32.ofNat (l + 1) + (1 : Int32) = Int32.ofNat ((l + 1) + 1) from (Int32.ofNat_add _ 1).symm) ?_
    refine wp_putI k198_30 (by decide) hM.o rfl rfl rfl ?_
    refine wp_iinc (L1 := [_, _, _]) (-8) k198_33 rfl (by decide) rfl ?_
    refine wp_goto k198_36 ?_
    refine wp_iload_n k198_3 rfl rfl ?_
    refine wp_if_lt_F k198_4 (by decide) ?_
    refine wp_aload_n k198_7 rfl rfl ?_
    refine wp_getR k198_8 (by decide) hM.o rfl ?_
    refine wp_aload_n k198_11 rfl rfl ?_
    refine wp_getI k198_12 (by decide) hM.o rfl (Int32.ofNat (l + 1 + 1)) (up_eq _ _ _ _) ?_
    refine wp_iload_n k198_15 rfl rfl ?_
    refine wp_iload_n k198_16 rfl rfl ?_
    refine wp_ishr k198_17 ?_
    refine wp_sipush 255 k198_18 (by decide) ?_
    refine wp_iand k198_21 ?_
    refine wp_iastore k198_22 (by decide) (hM.a319) (i_inO (by omega) (by decide)) (l + 1 + 1) (i_un (by omega)) ?_
    refine wp_aload_n k198_23 rfl rfl ?_
    refine wp_dup k198_24 rfl ?_
    refine wp_getI k198_25 (by decide) hM.o rfl (Int32.ofNat (l + 1 + 1)) ((up_ne _ _ (Or.inl (by decide))).trans (up_eq _ _ _ _)) ?_
    refine wp_iconst 1 k198_28 (by decide) ?_
    refine wp_iadd k198_29 ?_
    refine wp_cast (show Int32.ofNat (l + 1 + 1) + (1 : Int32) = Int32.ofNat ((l + 1 + 1) + 1) from (Int32.ofNat_add _ 1).symm) ?_
    refine wp_putI k198_30 (by decide) hM.o rfl rfl rfl ?_
    refine wp_iinc (L1 := [_, _, _]) (-8) k198_33 rfl (by decide) rfl ?_
    refine wp_goto k198_36 ?_
    refine wp_iload_n k198_3 rfl rfl ?_
    refine wp_if_lt_F k198_4 (by decide) ?_
    refine wp_aload_n k198_7 rfl rfl ?_
    refine wp_getR k198_8 (by decide) hM.o rfl ?_
    refine wp_aload_n k198_11 rfl rfl ?_
    refine wp_getI k198_12 (by decide) hM.o rfl (Int32.ofNat (l + 1 + 1 + 1)) (up_eq _ _ _ _) ?_
    refine wp_iload_n k198_15 rfl rfl ?_
    refine wp_iload_n k198_16 rfl rfl ?_
    refine wp_ishr k198_17 ?_
    refine wp_sipush 255 k198_18 (by decide) ?_
    refine wp_iand k198_21 ?_
    refine wp_iastore k198_22 (by decide) (hM.a319) (i_inO (by omega) (by decide)) (l + 1 + 1 + 1) (i_un (by omega)) ?_
    refine wp_aload_n k198_23 rfl rfl ?_
    refine wp_dup k198_24 rfl ?_
    refine wp_getI k198_25 (by decide) hM.o rfl (Int32.ofNat (l + 1 + 1 + 1)) ((up_ne _ _ (Or.inl (by decide))).trans (up_eq _ _ _ _)) ?_
    refine wp_iconst 1 k198_28 (by decide) ?_
    refine wp_iadd k198_29 ?_
    refine wp_cast (show Int32.ofNat (l + 1 + 1 + 1) + (1 : Int32) = Int32.ofNat ((l + 1 + 1 + 1) + 1) from (Int32.ofNat_add _ 1).symm) ?_
    refine wp_putI k198_30 (by decide) hM.o rfl rfl rfl ?_
    refine wp_iinc (L1 := [_, _, _]) (-8) k198_33 rfl (by decide) rfl ?_
    refine wp_goto k198_36 ?_
    refine wp_iload_n k198_3 rfl rfl ?_
    refine wp_if_lt_T k198_4 (by decide) ?_
    exact wp_retN k198_39 rfl ⟨_, rfl, rfl, fl_s (fl_s (fl_s (fl_s f0))), rfl, rfl⟩
  obtain ⟨v, g, e, W, h1, h2, f⟩ := E
  subst h1 h2
  exact ⟨W, e, f⟩
theorem r_append {S : ww_S} {sh : List mm_C} {V : hV} (hM : MS sh) (hI : RI V) {l : Nat} (hl : V.1 312 10 = Int32.ofNat l) (h6 : l ≤ 600) {p1 p2 p3 p4 p5 : Int32} : EVQ S 4 199 [.ref 312, .int p1, .int p2, .int p3, .int p4, .int p5] (hH sh V) (fun v g => ∃ (x : Int32) (W : hV), v = .inl (some (.int x)) ∧ g = hH sh W ∧ RI W ∧ (∀ a, a < 312 ∨ 322 < a → W.1 a = V.1 a) ∧ W.2 = V.2 ∧ ((l ≤ 580 ∧ x = Int32.ofNat (l + 20) ∧ W.1 312 10 = Int32.ofNat (l + 20) ∧ W.1 312 6 = 0 ∧ W = rpV (up V 312 6 0) l p1 p2 p3 p4 p5) ∨ (580 < l ∧ W.1 312 10 = V.1 312 10 ∧ W.1 312 6 = 1 ∧ W.1 319 = V.1 319))) := by
  refine ev_of P199 rfl ?_
  by_cases h5 : l ≤ 580
  · obtain ⟨W1, E1, F1, G1, X1⟩ := e_four (S := S) (sh := sh) (V := up V 312 6 (bI (!true))) hM (l := l) hl (by omega) (x := p1)
    obtain ⟨W2, E2, F2, G2, X2⟩ := e_four (S := S) (sh := sh) (V := W1) hM (l := l + 4) F1.1 (by omega) (x := p2)
    obtain ⟨W3, E3, F3, G3, X3⟩ := e_four (S := S) (sh := sh) (V := W2) hM (l := l + 8) F2.1 (by omega) (x := p3)
    obtain ⟨W4, E4, F4, G4, X4⟩ := e_four (S := S) (sh := sh) (V := W3) hM (l := l + 12) F3.1 (by omega) (x := p4)
    obtain ⟨W5, E5, F5, G5, X5⟩ := e_four (S := S) (sh := sh) (V := W4) hM (l := l + 16) F4.1 (by omega) (x := p5)
    have F := (((F1.t F2).t F3).t F4).t F5
    have hR := RI.fl F (by omega) (RI.q fq_6 hI)
    have hX : W5 = rpV (up V 312 6 0) l p1 p2 p3 p4 p5 := by
      rw [X5, X4, X3, X2, X1]
      rfl
    have hfar : ∀ a, a < 312 ∨ 322 < a → W5.1 a = V.1 a := fun a ha => (F.2.1 a (by omega) (by omega)).trans (funext fun k => up_ne _ _ (Or.inl (by omega)))
    refine wp_aload_n k199_0 rfl rfl ?_
    refine wp_aload_n k199_1 rfl rfl ?_
    refine wp_getI k199_2 (by decide) hM.o rfl (Int32.ofNat l) hl ?_
    refine wp_bipush 20 k199_5 (by decide) ?_
    refine wp_iadd k199_7 ?_
    refine wp_cast (show Int32.ofNat (l) + (20 : Int32) = Int32.ofNat (l + 20) from (Int32.ofNat_add _ 20).symm) ?_
    refine wp_sipush 600 k199_8 (by decide) ?_
    refine wp_if_icmp_gt_F k199_11 (i_nlt (k := 600) (n := l + 20) (by omega) (by decide)) ?_
    refine wp_iconst 1 k199_14 (by decide) ?_
    refine wp_goto k199_15 ?_
    refine wp_cv (st2 := []) k199_19 (e_passes hM (b := true)) (by decide) rfl rfl rfl rfl (by decide) hM.o (by decide) ?_
    refine wp_if_ne_T k199_22 (by decide) ?_
    refine wp_aload_n k199_27 rfl rfl ?_
    refine wp_iload_n k199_28 rfl rfl ?_
    refine wp_cvn (st2 := []) k199_29 E1 (by decide) rfl rfl rfl rfl (by decide) hM.o (by decide) ?_
    refine wp_aload_n k199_32 rfl rfl ?_
    refine wp_iload_n k199_33 rfl rfl ?_
    refine wp_cvn (st2 := []) k199_34 E2 (by decide) rfl rfl rfl rfl (by decide) hM.o (by decide) ?_
    refine wp_aload_n k199_37 rfl rfl ?_
    refine wp_iload_n k199_38 rfl rfl ?_
    refine wp_cvn (st2 := []) k199_39 E3 (by decide) rfl rfl rfl rfl (by decide) hM.o (by decide) ?_
    refine wp_aload_n k199_42 rfl rfl ?_
    refine wp_iload k199_43 rfl rfl ?_
    refine wp_cvn (st2 := []) k199_45 E4 (by decide) rfl rfl rfl rfl (by decide) hM.o (by decide) ?_
    refine wp_aload_n k199_48 rfl rfl ?_
    refine wp_iload k199_49 rfl rfl ?_
    refine wp_cvn (st2 := []) k199_51 E5 (by decide) rfl rfl rfl rfl (by decide) hM.o (by decide) ?_
    refine wp_aload_n k199_54 rfl rfl ?_
    refine wp_getI k199_55 (by decide) hM.o rfl (Int32.ofNat (l + 20)) F5.1 ?_
    exact wp_retI k199_58 rfl ⟨_, W5, rfl, rfl, hR, hfar, G5.trans (G4.trans (G3.trans (G2.trans G1))), Or.inl ⟨h5, rfl, F5.1, (F.2.2 6 (by decide)).trans (up_eq _ _ _ _), hX⟩⟩
  · skip
    refine wp_aload_n k199_0 rfl rfl ?_
    refine wp_aload_n k199_1 rfl rfl ?_
    refine wp_getI k199_2 (by decide) hM.o rfl (Int32.ofNat l) hl ?_
    refine wp_bipush 20 k199_5 (by decide) ?_
    refine wp_iadd k199_7 ?_
    refine wp_cast (show Int32.ofNat (l) + (20 : Int32) = Int32.ofNat (l + 20) from (Int32.ofNat_add _ 20).symm) ?_
    refine wp_sipush 600 k199_8 (by decide) ?_
    refine wp_if_icmp_gt_T k199_11 (i_lt (k := 600) (n := l + 20) (by omega) (by omega)) ?_
    refine wp_iconst 0 k199_18 (by decide) ?_
    refine wp_cv (st2 := []) k199_19 (e_passes hM (b := false)) (by decide) rfl rfl rfl rfl (by decide) hM.o (by decide) ?_
    refine wp_if_ne_F k199_22 rfl ?_
    refine wp_iconst 0 k199_25 (by decide) ?_
    exact wp_retI k199_26 rfl ⟨_, _, rfl, rfl, RI.q fq_6 hI, fun a ha => funext fun k => up_ne _ _ (Or.inl (by omega)), rfl, Or.inr ⟨by omega, rfl, up_eq _ _ _ _, rfl⟩⟩
theorem r_truncate {S : ww_S} {sh : List mm_C} {V : hV} (hM : MS sh) (hI : RI V) {l : Nat} (hl : V.1 312 10 = Int32.ofNat l) (h6 : l ≤ 600) {x : Int32} : EVQ S 3 200 [.ref 312, .int x] (hH sh V) (fun v g => ∃ (y : Int32) (W : hV), v = .inl (some (.int y)) ∧ g = hH sh W ∧ RI W ∧ (∀ a, a < 312 ∨ 322 < a → W.1 a = V.1 a) ∧ W.2 = V.2 ∧ W.1 319 = V.1 319 ∧ ((inI x 0 (Int32.ofNat l) = true ∧ y = x ∧ W.1 312 10 = x ∧ W.1 312 6 = 0) ∨ (inI x 0 (Int32.ofNat l) = false ∧ W.1 312 10 = V.1 312 10 ∧ W.1 312 6 = 1))) := by
  have EI : EV S 1 171 [.long x.toInt64, .long 0, .long (Int32.ofNat l).toInt64] (hH sh V) (.inl (some (.int (bI (inI x 0 (Int32.ofNat l)))))) (hH sh V) := e_inI
  refine ev_of P200 rfl ?_
  by_cases hb : inI x 0 (Int32.ofNat l) = true
  · have hb2 := hb
    rw [hb] at EI
    obtain ⟨k, hk, he⟩ := inI_nat (n := l + 1) (by omega) (x := x) (by rw [i_pred (by omega), Nat.add_sub_cancel]; exact hb2)
    subst he
    have F : FL k (up V 312 6 (bI (!true))) (up (up V 312 6 (bI (!true))) 312 10 (Int32.ofNat k)) := ⟨up_eq _ _ _ _, fun a h1 _ => funext fun j => up_ne _ _ (Or.inl h1), fun j hj => up_ne _ _ (Or.inr hj)⟩
    have hR := RI.fl F (by omega) (RI.q fq_6 hI)
    refine wp_aload_n k200_0 rfl rfl ?_
    refine wp_iload_n k200_1 rfl rfl ?_
    refine wp_i2l k200_2 ?_
    refine wp_lconst 0 k200_3 (by decide) ?_
    refine wp_aload_n k200_4 rfl rfl ?_
    refine wp_getI k200_5 (by decide) hM.o rfl (Int32.ofNat l) hl ?_
    refine wp_i2l k200_8 ?_
    refine wp_cs (st2 := [_]) k200_9 EI (by decide) rfl rfl rfl (by decide) ?_
    refine wp_cv (st2 := []) k200_12 (e_passes hM (b := true)) (by decide) rfl rfl rfl rfl (by decide) hM.o (by decide) ?_
    refine wp_if_ne_T k200_15 (by decide) ?_
    refine wp_aload_n k200_20 rfl rfl ?_
    refine wp_iload_n k200_21 rfl rfl ?_
    refine wp_putI k200_22 (by decide) hM.o rfl rfl rfl ?_
    refine wp_iload_n k200_25 rfl rfl ?_
    exact wp_retI k200_26 rfl ⟨_, _, rfl, rfl, hR, fun a ha => (funext fun j => up_ne _ _ (Or.inl (by omega))).trans (funext fun j => up_ne _ _ (Or.inl (by omega))), rfl, rfl, Or.inl ⟨hb2, rfl, up_eq _ _ _ _, (up_ne _ _ (Or.inr (by decide))).trans (up_eq _ _ _ _)⟩⟩
  · have hb2 := Bool.eq_false_iff.mpr hb
    rw [hb2] at EI
    refine wp_aload_n k200_0 rfl rfl ?_
    refine wp_iload_n k200_1 rfl rfl ?_
    refine wp_i2l k200_2 ?_
    refine wp_lconst 0 k200_3 (by decide) ?_
    refine wp_aload_n k200_4 rfl rfl ?_
    refine wp_getI k200_5 (by decide) hM.o rfl (Int32.ofNat l) hl ?_
    refine wp_i2l k200_8 ?_
    refine wp_cs (st2 := [_]) k200_9 EI (by decide) rfl rfl rfl (by decide) ?_
    refine wp_cv (st2 := []) k200_12 (e_passes hM (b := false)) (by decide) rfl rfl rfl rfl (by decide) hM.o (by decide) ?_
    refine wp_if_ne_F k200_15 rfl ?_
    refine wp_iconst 0 k200_18 (by decide) ?_
    exact wp_retI k200_19 rfl ⟨_, _, rfl, rfl, RI.q fq_6 hI, fun a ha => funext fun j => up_ne _ _ (Or.inl (by omega)), rfl, rfl, Or.inr ⟨hb2, rfl, up_eq _ _ _ _⟩⟩
theorem r_undo {S : ww_S} {sh : List mm_C} {V : hV} (hM : MS sh) (hI : RI V) : EVQ S 3 311 [.ref 312] (hH sh V) (rP sh V (V.1 312 10)) := by
  obtain ⟨l, pm, ol, bq, g1, g2, g3, g4, g5, g6, g7, g8, g9, g10⟩ := hI
  have hI : RI V := ⟨l, pm, ol, bq, g1, g2, g3, g4, g5, g6, g7, g8, g9, g10⟩
  refine ev_of P311 rfl ?_
  by_cases h0 : pm = 0
  · subst h0
    refine wp_aload_n k311_0 rfl rfl ?_
    refine wp_iconst 0 k311_1 (by decide) ?_
    refine wp_putI k311_2 (by decide) hM.o rfl rfl rfl ?_
    refine wp_aload_n k311_5 rfl rfl ?_
    refine wp_getI k311_6 (by decide) hM.o rfl (Int32.ofNat 0) g3 ?_
    refine wp_if_ne_F k311_9 rfl ?_
    refine wp_iconst (-1) k311_12 (by decide) ?_
    exact wp_retI k311_13 rfl ⟨_, _, rfl, rfl, RI.q fq_6 hI, rfl, FrQ.z fq_6⟩
  · obtain ⟨U, hU⟩ : ∃ U, up (up V 312 6 0) 312 5 (Int32.ofNat (pm - 1)) = U := ⟨_, rfl⟩
    have EC := e_copies (S := S) (sh := sh) (V := U) (f := 317) (t := 313) (a := 564 * (pm - 1)) (b := 0) (by decide) (by decide) hM.a317 hM.a313 (by decide) (by omega) (by decide) (by decide) (by decide)
    have eU : ∀ k, k ≠ 5 → k ≠ 6 → U.1 312 k = V.1 312 k := fun k h1 h2 => by rw [← hU]; exact (up_ne _ _ (Or.inr h1)).trans (up_ne _ _ (Or.inr h2))
    have eN : ∀ a, a ≠ 312 → U.1 a = V.1 a := fun a h1 => by rw [← hU]; exact (funext fun j => up_ne _ _ (Or.inl h1)).trans (funext fun j => up_ne _ _ (Or.inl h1))
    have e5 : U.1 312 5 = Int32.ofNat (pm - 1) := by rw [← hU]; exact up_eq _ _ _ _
    have hR : RI (cpV U 317 (564 * (pm - 1)) 313 0 564) := by
      refine ⟨l, pm - 1, ol, bq, (ovr_ne U _ (by decide) 10).trans ((eU 10 (by decide) (by decide)).trans g1), g2, (ovr_ne U _ (by decide) 5).trans e5, by omega, (ovr_ne U _ (by decide) 26).trans ((eU 26 (by decide) (by decide)).trans g5), g6, (ovr_ne U _ (by decide) 7).trans ((eU 7 (by decide) (by decide)).trans g7), fun z => ?_, ?_, fun q hq => ?_⟩
      · rw [show (cpV U 317 (564 * (pm - 1)) 313 0 564).1 314 = U.1 314 from funext fun j => ovr_ne U _ (by decide) j, eN 314 (by decide)]
        exact g8 z
      · refine SO.cg (fun k hk => ?_) (g10 (pm - 1) (by omega))
        have e : (cpV U 317 (564 * (pm - 1)) 313 0 564).1 313 k = U.1 317 (564 * (pm - 1) + (k - 0)) := ovr_some U (if_pos ⟨Nat.zero_le _, by omega⟩)
        rw [e, eN 317 (by decide)]
        rfl
      · refine SO.cg (fun k hk => ?_) (g10 q (by omega))
        rw [show (cpV U 317 (564 * (pm - 1)) 313 0 564).1 317 = U.1 317 from funext fun j => ovr_ne U _ (by decide) j, eN 317 (by decide)]
    have hZ : Fz V (cpV U 317 (564 * (pm - 1)) 313 0 564) := fun a h => (fz_cp (V := U) (by decide) (by decide) a h).trans (eN a (by omega))
    have hL : (cpV U 317 (564 * (pm - 1)) 313 0 564).1 312 10 = V.1 312 10 := (ovr_ne U _ (by decide) 10).trans (eU 10 (by decide) (by decide))
    refine wp_aload_n k311_0 rfl rfl ?_
    refine wp_iconst 0 k311_1 (by decide) ?_
    refine wp_putI k311_2 (by decide) hM.o rfl rfl rfl ?_
    refine wp_aload_n k311_5 rfl rfl ?_
    refine wp_getI k311_6 (by decide) hM.o rfl (Int32.ofNat pm) g3 ?_
    refine wp_if_ne_T k311_9 (fun z => h0 (i_inj (a := pm) (b := 0) (by omega) (by decide) z)) ?_
    refine wp_aload_n k311_14 rfl rfl ?_
    refine wp_dup k311_15 rfl ?_
    refine wp_getI k311_16 (by decide) hM.o rfl (Int32.ofNat pm) g3 ?_
    refine wp_iconst 1 k311_19 (by decide) ?_
    refine wp_isub k311_20 ?_
    refine wp_cast (i_pred (by omega)) ?_
    refine wp_putI k311_21 (by decide) hM.o rfl rfl rfl ?_
    rw [hU]
    skip
    refine wp_aload_n k311_24 rfl rfl ?_
    refine wp_getR k311_25 (by decide) hM.o rfl ?_
    refine wp_sipush 564 k311_28 (by decide) ?_
    refine wp_aload_n k311_31 rfl rfl ?_
    refine wp_getI k311_32 (by decide) hM.o rfl (Int32.ofNat (pm - 1)) e5 ?_
    refine wp_imul k311_35 ?_
    refine wp_cast (show (564 : Int32) * Int32.ofNat (pm - 1) = Int32.ofNat (564 * (pm - 1)) from (Int32.ofNat_mul 564 _).symm) ?_
    refine wp_aload_n k311_36 rfl rfl ?_
    refine wp_getR k311_37 (by decide) hM.o rfl ?_
    refine wp_iconst 0 k311_40 (by decide) ?_
    refine wp_csn (st2 := []) k311_41 EC (by decide) rfl rfl rfl (by decide) ?_
    refine wp_aload_n k311_44 rfl rfl ?_
    refine wp_getI k311_45 (by decide) hM.o rfl _ rfl ?_
    exact wp_retI k311_48 rfl ⟨_, _, rfl, rfl, hR, hL, hZ⟩
theorem r_save {S : ww_S} {sh : List mm_C} {V : hV} (hM : MS sh) (hI : RI V) : EVQ S 3 312 [.ref 312] (hH sh V) (rP sh V (V.1 312 10)) := by
  obtain ⟨l, pm, ol, bq, g1, g2, g3, g4, g5, g6, g7, g8, g9, g10⟩ := hI
  have hI : RI V := ⟨l, pm, ol, bq, g1, g2, g3, g4, g5, g6, g7, g8, g9, g10⟩
  refine ev_of P312 rfl ?_
  obtain ⟨U, hU⟩ : ∃ U, up V 312 6 0 = U := ⟨_, rfl⟩
  have EC := e_copies (S := S) (sh := sh) (V := U) (f := 313) (t := 314) (a := 0) (b := 0) (by decide) (by decide) hM.a313 hM.a314 (by decide) (by decide) (by decide) (by decide) (by decide)
  have hIU : RI U := by rw [← hU]; exact RI.q fq_6 hI
  have hLU : U.1 312 10 = V.1 312 10 := by rw [← hU]; exact up_ne _ _ (Or.inr (by decide))
  obtain ⟨_, _, _, _, u1, u2, u3, u4, u5, u6, u7, u8, u9, u10⟩ := hIU
  have hR : RI (up (cpV U 313 0 314 0 564) 312 7 1) := by
    refine ⟨_, _, _, true, (up_ne _ _ (Or.inr (by decide))).trans ((ovr_ne U _ (by decide) 10).trans u1), u2, (up_ne _ _ (Or.inr (by decide))).trans ((ovr_ne U _ (by decide) 5).trans u3), u4, (up_ne _ _ (Or.inr (by decide))).trans ((ovr_ne U _ (by decide) 26).trans u5), u6, up_eq _ _ _ _, fun _ => ?_, ?_, u10.cg ((funext fun j => up_ne _ _ (Or.inl (by decide))).trans (funext fun j => ovr_ne U _ (by decide) j))⟩
    · refine SO.cg (fun k hk => ?_) u9
      have e : (cpV U 313 0 314 0 564).1 314 k = U.1 313 (0 + (k - 0)) := ovr_some U (if_pos ⟨Nat.zero_le _, by omega⟩)
      rw [up_ne _ _ (Or.inl (by decide)), e, show 0 + (k - 0) = k by omega]
    · refine SO.cg (fun k hk => ?_) u9
      exact (up_ne _ _ (Or.inl (by decide))).trans (ovr_ne U _ (by decide) k)
  have z1 : Fz V U := by
    rw [← hU]
    exact fz_up (by decide) (by decide)
  have hZ : Fz V (up (cpV U 313 0 314 0 564) 312 7 1) := (z1.t (fz_cp (by decide) (by decide))).t (fz_up (by decide) (by decide))
  have hL : (up (cpV U 313 0 314 0 564) 312 7 1).1 312 10 = V.1 312 10 := (up_ne _ _ (Or.inr (by decide))).trans ((ovr_ne U _ (by decide) 10).trans hLU)
  refine wp_aload_n k312_0 rfl rfl ?_
  refine wp_iconst 0 k312_1 (by decide) ?_
  refine wp_putI k312_2 (by decide) hM.o rfl rfl rfl ?_
  rw [hU]
  skip
  refine wp_aload_n k312_5 rfl rfl ?_
  refine wp_getR k312_6 (by decide) hM.o rfl ?_
  refine wp_iconst 0 k312_9 (by decide) ?_
  refine wp_aload_n k312_10 rfl rfl ?_
  refine wp_getR k312_11 (by decide) hM.o rfl ?_
  refine wp_iconst 0 k312_14 (by decide) ?_
  refine wp_csn (st2 := []) k312_15 EC (by decide) rfl rfl rfl (by decide) ?_
  refine wp_aload_n k312_18 rfl rfl ?_
  refine wp_iconst 1 k312_19 (by decide) ?_
  refine wp_putI k312_20 (by decide) hM.o rfl rfl rfl ?_
  refine wp_aload_n k312_23 rfl rfl ?_
  refine wp_getR k312_24 (by decide) hM.o rfl ?_
  refine wp_iconst 2 k312_27 (by decide) ?_
  refine wp_iaload k312_28 (by decide) (hM.a313) (by decide) 2 (by decide) _ rfl ?_
  refine wp_cs (st2 := []) k312_29 (e_bits) (by decide) rfl rfl rfl (by decide) ?_
  exact wp_retI k312_32 rfl ⟨_, _, rfl, rfl, hR, hL, hZ⟩
theorem r_restore {S : ww_S} {sh : List mm_C} {V : hV} (hM : MS sh) (hI : RI V) : EVQ S 3 313 [.ref 312] (hH sh V) (rP sh V (V.1 312 10)) := by
  obtain ⟨l, pm, ol, bq, g1, g2, g3, g4, g5, g6, g7, g8, g9, g10⟩ := hI
  have hI : RI V := ⟨l, pm, ol, bq, g1, g2, g3, g4, g5, g6, g7, g8, g9, g10⟩
  refine ev_of P313 rfl ?_
  cases bq with
  | false =>
    refine wp_aload_n k313_0 rfl rfl ?_
    refine wp_aload_n k313_1 rfl rfl ?_
    refine wp_getI k313_2 (by decide) hM.o rfl (bI false) g7 ?_
    refine wp_cv (st2 := []) k313_5 (e_passes hM (b := false)) (by decide) rfl rfl rfl rfl (by decide) hM.o (by decide) ?_
    refine wp_if_ne_F k313_8 rfl ?_
    refine wp_iconst 0 k313_11 (by decide) ?_
    exact wp_retI k313_12 rfl ⟨_, _, rfl, rfl, RI.q fq_6 hI, rfl, FrQ.z fq_6⟩
  | true =>
    obtain ⟨U, hU⟩ : ∃ U, up V 312 6 (bI (!true)) = U := ⟨_, rfl⟩
    have EC := e_copies (S := S) (sh := sh) (V := U) (f := 314) (t := 313) (a := 0) (b := 0) (by decide) (by decide) hM.a314 hM.a313 (by decide) (by decide) (by decide) (by decide) (by decide)
    have hIU : RI U := by rw [← hU]; exact RI.q fq_6 hI
    have hLU : U.1 312 10 = V.1 312 10 := by rw [← hU]; exact up_ne _ _ (Or.inr (by decide))
    have h14 : U.1 314 = V.1 314 := by rw [← hU]; exact funext fun j => up_ne _ _ (Or.inl (by decide))
    obtain ⟨_, _, _, b9, u1, u2, u3, u4, u5, u6, u7, u8, u9, u10⟩ := hIU
    have hR : RI (up (cpV U 314 0 313 0 564) 312 5 0) := by
      refine ⟨_, 0, _, b9, (up_ne _ _ (Or.inr (by decide))).trans ((ovr_ne U _ (by decide) 10).trans u1), u2, up_eq _ _ _ _, Nat.zero_le _, (up_ne _ _ (Or.inr (by decide))).trans ((ovr_ne U _ (by decide) 26).trans u5), u6, (up_ne _ _ (Or.inr (by decide))).trans ((ovr_ne U _ (by decide) 7).trans u7), fun z => ?_, ?_, fun q hq => absurd hq (Nat.not_lt_zero q)⟩
      · refine SO.cg (fun k hk => ?_) (u8 z)
        exact (up_ne _ _ (Or.inl (by decide))).trans (ovr_ne U _ (by decide) k)
      · refine SO.cg (fun k hk => ?_) (g8 rfl)
        have e : (cpV U 314 0 313 0 564).1 313 k = U.1 314 (0 + (k - 0)) := ovr_some U (if_pos ⟨Nat.zero_le _, by omega⟩)
        rw [up_ne _ _ (Or.inl (by decide)), e, h14, show 0 + (k - 0) = k by omega]
    have z1 : Fz V U := by
      rw [← hU]
      exact fz_up (by decide) (by decide)
    have hZ : Fz V (up (cpV U 314 0 313 0 564) 312 5 0) := (z1.t (fz_cp (by decide) (by decide))).t (fz_up (by decide) (by decide))
    have hL : (up (cpV U 314 0 313 0 564) 312 5 0).1 312 10 = V.1 312 10 := (up_ne _ _ (Or.inr (by decide))).trans ((ovr_ne U _ (by decide) 10).trans hLU)
    refine wp_aload_n k313_0 rfl rfl ?_
    refine wp_aload_n k313_1 rfl rfl ?_
    refine wp_getI k313_2 (by decide) hM.o rfl (bI true) g7 ?_
    refine wp_cv (st2 := []) k313_5 (e_passes hM (b := true)) (by decide) rfl rfl rfl rfl (by decide) hM.o (by decide) ?_
    refine wp_if_ne_T k313_8 (by decide) ?_
    rw [hU]
    skip
    refine wp_aload_n k313_13 rfl rfl ?_
    refine wp_getR k313_14 (by decide) hM.o rfl ?_
    refine wp_iconst 0 k313_17 (by decide) ?_
    refine wp_aload_n k313_18 rfl rfl ?_
    refine wp_getR k313_19 (by decide) hM.o rfl ?_
    refine wp_iconst 0 k313_22 (by decide) ?_
    refine wp_csn (st2 := []) k313_23 EC (by decide) rfl rfl rfl (by decide) ?_
    refine wp_aload_n k313_26 rfl rfl ?_
    refine wp_iconst 0 k313_27 (by decide) ?_
    refine wp_putI k313_28 (by decide) hM.o rfl rfl rfl ?_
    refine wp_aload_n k313_31 rfl rfl ?_
    refine wp_getR k313_32 (by decide) hM.o rfl ?_
    refine wp_iconst 2 k313_35 (by decide) ?_
    refine wp_iaload k313_36 (by decide) (hM.a313) (by decide) 2 (by decide) _ rfl ?_
    refine wp_cs (st2 := []) k313_37 (e_bits) (by decide) rfl rfl rfl (by decide) ?_
    exact wp_retI k313_40 rfl ⟨_, _, rfl, rfl, hR, hL, hZ⟩
end M54
