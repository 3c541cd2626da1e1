section M61
/-! ===== the reference: what is written: the question ===== -/
def WNd (S : ww_S) (sh : List mm_C) (D : Nat) (V : hV) (k A : Nat) : Prop := ∀ (U : hV) (u : Nat), FRW u V U → u + A ≤ 2000 → ∃ o2 W, EV S D 308 [.ref 312, .int (Int32.ofNat k)] (hH sh U) (.inl none) (hH sh W) ∧ o2 ≤ u + A ∧ FRW o2 U W
theorem n5_ne : ∀ i : Fin 5, ¬ Int32.ofNat i.val = -1 := by decide
theorem e_wah {S : ww_S} {sh : List mm_C} {V U : hV} (hM : MS sh) {D u n s N : Nat} (hx : XS s n N) (hD : 6 ≤ D) (f : FRW u V U) {k A : Nat} (E : WNd S sh D V k A) (h : u + (n + A) ≤ 2000) : ∃ o2 W, EV S (D + 1) 307 [.ref 312, .ref s, .int (-1), .int (Int32.ofNat k)] (hH sh U) (.inl none) (hH sh W) ∧ o2 ≤ u + (n + A) ∧ FRW o2 U W := by
  obtain ⟨W1, E1, f1⟩ := e_wtext (S := S) (sh := sh) (V := U) hM f.1 hx (by omega)
  obtain ⟨o2, W2, E2, q2, f2⟩ := E W1 (u + n) (f.t f1) (by omega)
  refine ⟨o2, W2, ev_qe P307 rfl ?_, by omega, f1.t f2⟩
  refine wp_aload_n k307_0 rfl rfl ?_
  refine wp_aload_n k307_1 rfl rfl ?_
  refine wp_cvn (st2 := []) k307_2 E1 (by decide) rfl rfl rfl rfl (by decide) hM.o (by omega) ?_
  refine wp_iload_n k307_5 rfl rfl ?_
  refine wp_iconst (-1) k307_6 (by decide) ?_
  refine wp_if_icmp_eq_T k307_7 rfl ?_
  refine wp_aload_n k307_27 rfl rfl ?_
  refine wp_iload_n k307_28 rfl rfl ?_
  refine wp_cvn (st2 := []) k307_29 E2 (by decide) rfl rfl rfl rfl (by decide) hM.o (Nat.le_refl _) ?_
  exact wp_retn k307_32 rfl rfl
theorem e_wahp {S : ww_S} {sh : List mm_C} {V U : hV} (hM : MS sh) {D u n s N : Nat} (hx : XS s n N) (hD : 6 ≤ D) (f : FRW u V U) {p w k A : Nat} (hp : p < 5) (hw : V.1 313 (115 + 7 * p) = Int32.ofNat w) (hw6 : w ≤ 6) (E : WNd S sh D V k A) (h : u + (n + w + 1 + A) ≤ 2000) : ∃ o2 W, EV S (D + 1) 307 [.ref 312, .ref s, .int (Int32.ofNat p), .int (Int32.ofNat k)] (hH sh U) (.inl none) (hH sh W) ∧ o2 ≤ u + (n + w + 1 + A) ∧ FRW o2 U W := by
  obtain ⟨W1, E1, f1⟩ := e_wtext (S := S) (sh := sh) (V := U) hM f.1 hx (by omega)
  have hw1 : W1.1 313 (115 + 7 * p) = Int32.ofNat w := (congrFun ((f.t f1).2.1 313 (by decide) (by decide)) _).trans hw
  obtain ⟨W2, E2, f2⟩ := e_wname (S := S) (sh := sh) (V := W1) hM f1.1 (t := 115 + 7 * p) (by omega) hw1 hw6 (by omega)
  have E3 := e_writes (S := S) (sh := sh) hM f2.1 (by omega) (c := 32)
  obtain ⟨o2, W4, E4, q4, f4⟩ := E (wrV W2 (u + n + w) 32) (u + n + w + 1) (((f.t f1).t f2).t frw_w) (by omega)
  refine ⟨o2, W4, ev_qe P307 rfl ?_, by omega, ((f1.t f2).t frw_w).t f4⟩
  refine wp_aload_n k307_0 rfl rfl ?_
  refine wp_aload_n k307_1 rfl rfl ?_
  refine wp_cvn (st2 := []) k307_2 E1 (by decide) rfl rfl rfl rfl (by decide) hM.o (by omega) ?_
  refine wp_iload_n k307_5 rfl rfl ?_
  refine wp_iconst (-1) k307_6 (by decide) ?_
  refine wp_if_icmp_eq_F k307_7 (n5_ne ⟨p, hp⟩) ?_
  refine wp_aload_n k307_10 rfl rfl ?_
  refine wp_bipush 115 k307_11 (by decide) ?_
  refine wp_bipush 7 k307_13 (by decide) ?_
  refine wp_iload_n k307_15 rfl rfl ?_
  refine wp_imul k307_16 ?_
  refine wp_cast (show (7 : Int32) * Int32.ofNat (p) = Int32.ofNat (7 * p) from (Int32.ofNat_mul 7 _).symm) ?_
  refine wp_iadd k307_17 ?_
  refine wp_cast (show (115 : Int32) + Int32.ofNat (7 * p) = Int32.ofNat (115 + (7 * p)) from (Int32.ofNat_add 115 _).symm) ?_
  refine wp_cvn (st2 := []) k307_18 E2 (by decide) rfl rfl rfl rfl (by decide) hM.o (by omega) ?_
  refine wp_aload_n k307_21 rfl rfl ?_
  refine wp_bipush 32 k307_22 (by decide) ?_
  refine wp_cvn (st2 := []) k307_24 E3 (by decide) rfl rfl rfl rfl (by decide) hM.o (by omega) ?_
  refine wp_aload_n k307_27 rfl rfl ?_
  refine wp_iload_n k307_28 rfl rfl ?_
  refine wp_cvn (st2 := []) k307_29 E4 (by decide) rfl rfl rfl rfl (by decide) hM.o (Nat.le_refl _) ?_
  exact wp_retn k307_32 rfl rfl
theorem e_wtwo {S : ww_S} {sh : List mm_C} {V U : hV} (hM : MS sh) {D u n s N : Nat} (hx : XS s n N) (hD : 6 ≤ D) (f : FRW u V U) {a b A B : Nat} (EA : WNd S sh D V a A) (EB : WNd S sh D V b B) (h : u + (n + 2 + A + B) ≤ 2000) : ∃ o2 W, EV S (D + 1) 306 [.ref 312, .int (Int32.ofNat a), .int (Int32.ofNat b), .ref s] (hH sh U) (.inl none) (hH sh W) ∧ o2 ≤ u + (n + 2 + A + B) ∧ FRW o2 U W := by
  have E1 := e_writes (S := S) (sh := sh) hM f.1 (by omega) (c := 40)
  obtain ⟨o2, W2, E2, q2, f2⟩ := EA (wrV U u 40) (u + 1) (f.t frw_w) (by omega)
  obtain ⟨W3, E3, f3⟩ := e_wtext (S := S) (sh := sh) (V := W2) hM f2.1 hx (by omega)
  obtain ⟨o4, W4, E4, q4, f4⟩ := EB W3 (o2 + n) (((f.t frw_w).t f2).t f3) (by omega)
  have E5 := e_writes (S := S) (sh := sh) hM f4.1 (by omega) (c := 41)
  refine ⟨o4 + 1, wrV W4 o4 41, ev_qe P306 rfl ?_, by omega, (((frw_w.t f2).t f3).t f4).t frw_w⟩
  refine wp_aload_n k306_0 rfl rfl ?_
  refine wp_bipush 40 k306_1 (by decide) ?_
  refine wp_cvn (st2 := []) k306_3 E1 (by decide) rfl rfl rfl rfl (by decide) hM.o (by omega) ?_
  refine wp_aload_n k306_6 rfl rfl ?_
  refine wp_iload_n k306_7 rfl rfl ?_
  refine wp_cvn (st2 := []) k306_8 E2 (by decide) rfl rfl rfl rfl (by decide) hM.o (Nat.le_refl _) ?_
  refine wp_aload_n k306_11 rfl rfl ?_
  refine wp_aload_n k306_12 rfl rfl ?_
  refine wp_cvn (st2 := []) k306_13 E3 (by decide) rfl rfl rfl rfl (by decide) hM.o (by omega) ?_
  refine wp_aload_n k306_16 rfl rfl ?_
  refine wp_iload_n k306_17 rfl rfl ?_
  refine wp_cvn (st2 := []) k306_18 E4 (by decide) rfl rfl rfl rfl (by decide) hM.o (Nat.le_refl _) ?_
  refine wp_aload_n k306_21 rfl rfl ?_
  refine wp_bipush 41 k306_22 (by decide) ?_
  refine wp_cvn (st2 := []) k306_24 E5 (by decide) rfl rfl rfl rfl (by decide) hM.o (by omega) ?_
  exact wp_retn k306_27 rfl rfl
theorem e_wnode {S : ww_S} {sh : List mm_C} {V : hV} (hM : MS sh) (hN : NMS (V.1 313)) {np nf m : Nat} (h5 : np ≤ 5) (h5f : nf ≤ 5) (hm : m ≤ 60) (hK : ∀ k, k < m → Nd (V.1 313) 320 np nf k) : ∀ (g lo k : Nat), TR (V.1 313) 320 g lo k → k < m → WNd S sh (2 * g + 6) V k (13 * (k + 1 - lo)) := by
  intro g
  induction g with
  | zero =>
    intro lo k h
    exact h.elim
  | succ g ih =>
    intro lo k h hk U u f hu
    obtain ⟨kn, a, c, e1, e2, e3, e4, e5, e6, e7, e8, _⟩ := hK k hk
    have v1 : U.1 313 (321 + 4 * k) = Int32.ofNat kn := (congrFun (f.2.1 313 (by decide) (by decide)) _).trans e1
    have v2 : U.1 313 (321 + 4 * k + 1) = Int32.ofNat a := (congrFun (f.2.1 313 (by decide) (by decide)) _).trans e2
    have v3 : U.1 313 (321 + 4 * k + 2) = Int32.ofNat c := (congrFun (f.2.1 313 (by decide) (by decide)) _).trans e3
    have ac : a < 60 ∧ c < 60 := by
      refine ⟨?_, ?_⟩
      · by_cases z : kn = 0
        · have := e5 z
          omega
        · have := e6 (by omega)
          omega
      · by_cases z : kn = 2 ∨ kn = 3
        · have := e7 z
          omega
        · by_cases z2 : kn = 4 ∨ kn = 5
          · have := e8 z2
            omega
          · have := ‹kn ≠ 2 → kn ≠ 3 → kn ≠ 4 → kn ≠ 5 → c = 0› (by omega) (by omega) (by omega) (by omega)
            omega
    rcases h with ⟨h1, h2⟩ | ⟨kn', h1, h2, h3, h4, h5'⟩ | ⟨kn', md, h1, h2, h3, h4, h5', h6, h7, h8⟩
    · have z := i_inj (by omega) (by decide) (e1.symm.trans h1)
      subst z
      have ha := e5 rfl
      obtain ⟨w, hw, hw2⟩ := (hN a (by omega)).1
      obtain ⟨W, E, f2⟩ := e_wname (S := S) (sh := sh) (V := U) hM f.1 (t := 80 + 7 * a) (by omega) ((congrFun (f.2.1 313 (by decide) (by decide)) _).trans hw2) hw (by omega)
      refine ⟨_, W, ev_qe (D := 2 * g + 7) P308 rfl ?_, by omega, f2⟩
      refine wp_sipush 321 k308_0 (by decide) ?_
      refine wp_iconst 4 k308_3 (by decide) ?_
      refine wp_iload_n k308_4 rfl rfl ?_
      refine wp_imul k308_5 ?_
      refine wp_cast (show (4 : Int32) * Int32.ofNat (k) = Int32.ofNat (4 * k) from (Int32.ofNat_mul 4 _).symm) ?_
      refine wp_iadd k308_6 ?_
      refine wp_cast (show (321 : Int32) + Int32.ofNat (4 * k) = Int32.ofNat (321 + (4 * k)) from (Int32.ofNat_add 321 _).symm) ?_
      refine wp_istore_n (L1 := [_, _, _, _, _]) k308_7 rfl rfl ?_
      refine wp_aload_n k308_8 rfl rfl ?_
      refine wp_getR k308_9 (by decide) hM.o rfl ?_
      refine wp_iload_n k308_12 rfl rfl ?_
      refine wp_iconst 1 k308_13 (by decide) ?_
      refine wp_iadd k308_14 ?_
      refine wp_cast (show Int32.ofNat (321 + (4 * k)) + (1 : Int32) = Int32.ofNat ((321 + (4 * k)) + 1) from (Int32.ofNat_add _ 1).symm) ?_
      refine wp_iaload k308_15 (by decide) (hM.a313) (i_inO (by omega) (by decide)) ((321 + (4 * k)) + 1) (i_un (by omega)) (Int32.ofNat a) v2 ?_
      refine wp_istore_n (L1 := [_, _, _, _, _]) k308_16 rfl rfl ?_
      refine wp_aload_n k308_17 rfl rfl ?_
      refine wp_getR k308_18 (by decide) hM.o rfl ?_
      refine wp_iload_n k308_21 rfl rfl ?_
      refine wp_iconst 2 k308_22 (by decide) ?_
      refine wp_iadd k308_23 ?_
      refine wp_cast (show Int32.ofNat (321 + (4 * k)) + (2 : Int32) = Int32.ofNat ((321 + (4 * k)) + 2) from (Int32.ofNat_add _ 2).symm) ?_
      refine wp_iaload k308_24 (by decide) (hM.a313) (i_inO (by omega) (by decide)) ((321 + (4 * k)) + 2) (i_un (by omega)) (Int32.ofNat c) v3 ?_
      refine wp_istore (L1 := [_, _, _, _, _]) k308_25 rfl rfl ?_
      refine wp_aload_n k308_27 rfl rfl ?_
      refine wp_getR k308_28 (by decide) hM.o rfl ?_
      refine wp_iload_n k308_31 rfl rfl ?_
      refine wp_iaload k308_32 (by decide) (hM.a313) (i_inO (by omega) (by decide)) (321 + (4 * k)) (i_un (by omega)) (Int32.ofNat 0) v1 ?_
      refine wp_tsw k308_33 (fun i9 t9 g9 e9 => ?_) (fun c33 => ?_) (by decide)
      · have b9 : i9 < 7 := (List.getElem?_eq_some_iff.mp g9).1
        obtain rfl | rfl | rfl | rfl | rfl | rfl | rfl : i9 = 0 ∨ i9 = 1 ∨ i9 = 2 ∨ i9 = 3 ∨ i9 = 4 ∨ i9 = 5 ∨ i9 = 6 := by omega
        · cases g9
          refine wp_aload_n k308_76 rfl rfl ?_
          refine wp_bipush 80 k308_77 (by decide) ?_
          refine wp_bipush 7 k308_79 (by decide) ?_
          refine wp_iload_n k308_81 rfl rfl ?_
          refine wp_imul k308_82 ?_
          refine wp_cast (show (7 : Int32) * Int32.ofNat (a) = Int32.ofNat (7 * a) from (Int32.ofNat_mul 7 _).symm) ?_
          refine wp_iadd k308_83 ?_
          refine wp_cast (show (80 : Int32) + Int32.ofNat (7 * a) = Int32.ofNat (80 + (7 * a)) from (Int32.ofNat_add 80 _).symm) ?_
          refine wp_cvn (st2 := []) k308_84 E (by decide) rfl rfl rfl rfl (by decide) hM.o (by omega) ?_
          exact wp_retn k308_87 rfl rfl
        · cases g9
          exact absurd e9 (by decide)
        · cases g9
          exact absurd e9 (by decide)
        · cases g9
          exact absurd e9 (by decide)
        · cases g9
          exact absurd e9 (by decide)
        · cases g9
          exact absurd e9 (by decide)
        · cases g9
          exact absurd e9 (by decide)
      · exact absurd (by decide) (c33 0 (by decide))
    · have z := i_inj (by omega) (by omega) (e1.symm.trans h2)
      subst z
      have z := i_inj (by omega) (by omega) (e2.symm.trans h4)
      subst z
      have E := ih lo (k - 1) h5' (by omega)
      rcases (show kn = 1 ∨ kn = 4 ∨ kn = 5 ∨ kn = 6 ∨ kn = 7 by omega) with rfl | rfl | rfl | rfl | rfl
      · obtain ⟨o2, W, E2, q2, f2⟩ := e_wah (S := S) (sh := sh) hM XS48 (by omega) f E (by omega)
        refine ⟨o2, W, ev_qe (D := 2 * g + 7) P308 rfl ?_, by omega, f2⟩
        refine wp_sipush 321 k308_0 (by decide) ?_
        refine wp_iconst 4 k308_3 (by decide) ?_
        refine wp_iload_n k308_4 rfl rfl ?_
        refine wp_imul k308_5 ?_
        refine wp_cast (show (4 : Int32) * Int32.ofNat (k) = Int32.ofNat (4 * k) from (Int32.ofNat_mul 4 _).symm) ?_
        refine wp_iadd k308_6 ?_
        refine wp_cast (show (321 : Int32) + Int32.ofNat (4 * k) = Int32.ofNat (321 + (4 * k)) from (Int32.ofNat_add 321 _).symm) ?_
        refine wp_istore_n (L1 := [_, _, _, _, _]) k308_7 rfl rfl ?_
        refine wp_aload_n k308_8 rfl rfl ?_
        refine wp_getR k308_9 (by decide) hM.o rfl ?_
        refine wp_iload_n k308_12 rfl rfl ?_
        refine wp_iconst 1 k308_13 (by decide) ?_
        refine wp_iadd k308_14 ?_
        refine wp_cast (show Int32.ofNat (321 + (4 * k)) + (1 : Int32) = Int32.ofNat ((321 + (4 * k)) + 1) from (Int32.ofNat_add _ 1).symm) ?_
        refine wp_iaload k308_15 (by decide) (hM.a313) (i_inO (by omega) (by decide)) ((321 + (4 * k)) + 1) (i_un (by omega)) (Int32.ofNat (k - 1)) v2 ?_
        refine wp_istore_n (L1 := [_, _, _, _, _]) k308_16 rfl rfl ?_
        refine wp_aload_n k308_17 rfl rfl ?_
        refine wp_getR k308_18 (by decide) hM.o rfl ?_
        refine wp_iload_n k308_21 rfl rfl ?_
        refine wp_iconst 2 k308_22 (by decide) ?_
        refine wp_iadd k308_23 ?_
        refine wp_cast (show Int32.ofNat (321 + (4 * k)) + (2 : Int32) = Int32.ofNat ((321 + (4 * k)) + 2) from (Int32.ofNat_add _ 2).symm) ?_
        refine wp_iaload k308_24 (by decide) (hM.a313) (i_inO (by omega) (by decide)) ((321 + (4 * k)) + 2) (i_un (by omega)) (Int32.ofNat c) v3 ?_
        refine wp_istore (L1 := [_, _, _, _, _]) k308_25 rfl rfl ?_
        refine wp_aload_n k308_27 rfl rfl ?_
        refine wp_getR k308_28 (by decide) hM.o rfl ?_
        refine wp_iload_n k308_31 rfl rfl ?_
        refine wp_iaload k308_32 (by decide) (hM.a313) (i_inO (by omega) (by decide)) (321 + (4 * k)) (i_un (by omega)) (Int32.ofNat 1) v1 ?_
        refine wp_tsw k308_33 (fun i9 t9 g9 e9 => ?_) (fun c33 => ?_) (by decide)
        · have b9 : i9 < 7 := (List.getElem?_eq_some_iff.mp g9).1
          obtain rfl | rfl | rfl | rfl | rfl | rfl | rfl : i9 = 0 ∨ i9 = 1 ∨ i9 = 2 ∨ i9 = 3 ∨ i9 = 4 ∨ i9 = 5 ∨ i9 = 6 := by omega
          · cases g9
            exact absurd e9 (by decide)
          · cases g9
            refine wp_aload_n k308_88 rfl rfl ?_
            refine wp_ldc_wR k308_89 ?_
            refine wp_iconst (-1) k308_92 (by decide) ?_
            refine wp_iload_n k308_93 rfl rfl ?_
            refine wp_cvn (st2 := []) k308_94 E2 (by decide) rfl rfl rfl rfl (by decide) hM.o (by omega) ?_
            exact wp_retn k308_97 rfl rfl
          · cases g9
            exact absurd e9 (by decide)
          · cases g9
            exact absurd e9 (by decide)
          · cases g9
            exact absurd e9 (by decide)
          · cases g9
            exact absurd e9 (by decide)
          · cases g9
            exact absurd e9 (by decide)
        · exact absurd (by decide) (c33 1 (by decide))
      · have hc := e8 (by omega)
        obtain ⟨w, hw, hw2⟩ := (hN c (by omega)).2
        obtain ⟨o2, W, E2, q2, f2⟩ := e_wahp (S := S) (sh := sh) hM XS50 (by omega) f (by omega) hw2 hw E (by omega)
        refine ⟨o2, W, ev_qe (D := 2 * g + 7) P308 rfl ?_, by omega, f2⟩
        refine wp_sipush 321 k308_0 (by decide) ?_
        refine wp_iconst 4 k308_3 (by decide) ?_
        refine wp_iload_n k308_4 rfl rfl ?_
        refine wp_imul k308_5 ?_
        refine wp_cast (show (4 : Int32) * Int32.ofNat (k) = Int32.ofNat (4 * k) from (Int32.ofNat_mul 4 _).symm) ?_
        refine wp_iadd k308_6 ?_
        refine wp_cast (show (321 : Int32) + Int32.ofNat (4 * k) = Int32.ofNat (321 + (4 * k)) from (Int32.ofNat_add 321 _).symm) ?_
        refine wp_istore_n (L1 := [_, _, _, _, _]) k308_7 rfl rfl ?_
        refine wp_aload_n k308_8 rfl rfl ?_
        refine wp_getR k308_9 (by decide) hM.o rfl ?_
        refine wp_iload_n k308_12 rfl rfl ?_
        refine wp_iconst 1 k308_13 (by decide) ?_
        refine wp_iadd k308_14 ?_
        refine wp_cast (show Int32.ofNat (321 + (4 * k)) + (1 : Int32) = Int32.ofNat ((321 + (4 * k)) + 1) from (Int32.ofNat_add _ 1).symm) ?_
        refine wp_iaload k308_15 (by decide) (hM.a313) (i_inO (by omega) (by decide)) ((321 + (4 * k)) + 1) (i_un (by omega)) (Int32.ofNat (k - 1)) v2 ?_
        refine wp_istore_n (L1 := [_, _, _, _, _]) k308_16 rfl rfl ?_
        refine wp_aload_n k308_17 rfl rfl ?_
        refine wp_getR k308_18 (by decide) hM.o rfl ?_
        refine wp_iload_n k308_21 rfl rfl ?_
        refine wp_iconst 2 k308_22 (by decide) ?_
        refine wp_iadd k308_23 ?_
        refine wp_cast (show Int32.ofNat (321 + (4 * k)) + (2 : Int32) = Int32.ofNat ((321 + (4 * k)) + 2) from (Int32.ofNat_add _ 2).symm) ?_
        refine wp_iaload k308_24 (by decide) (hM.a313) (i_inO (by omega) (by decide)) ((321 + (4 * k)) + 2) (i_un (by omega)) (Int32.ofNat c) v3 ?_
        refine wp_istore (L1 := [_, _, _, _, _]) k308_25 rfl rfl ?_
        refine wp_aload_n k308_27 rfl rfl ?_
        refine wp_getR k308_28 (by decide) hM.o rfl ?_
        refine wp_iload_n k308_31 rfl rfl ?_
        refine wp_iaload k308_32 (by decide) (hM.a313) (i_inO (by omega) (by decide)) (321 + (4 * k)) (i_un (by omega)) (Int32.ofNat 4) v1 ?_
        refine wp_tsw k308_33 (fun i9 t9 g9 e9 => ?_) (fun c33 => ?_) (by decide)
        · have b9 : i9 < 7 := (List.getElem?_eq_some_iff.mp g9).1
          obtain rfl | rfl | rfl | rfl | rfl | rfl | rfl : i9 = 0 ∨ i9 = 1 ∨ i9 = 2 ∨ i9 = 3 ∨ i9 = 4 ∨ i9 = 5 ∨ i9 = 6 := by omega
          · cases g9
            exact absurd e9 (by decide)
          · cases g9
            exact absurd e9 (by decide)
          · cases g9
            exact absurd e9 (by decide)
          · cases g9
            exact absurd e9 (by decide)
          · cases g9
            refine wp_aload_n k308_120 rfl rfl ?_
            refine wp_ldc_wR k308_121 ?_
            refine wp_iload k308_124 rfl rfl ?_
            refine wp_iload_n k308_126 rfl rfl ?_
            refine wp_cvn (st2 := []) k308_127 E2 (by decide) rfl rfl rfl rfl (by decide) hM.o (by omega) ?_
            exact wp_retn k308_130 rfl rfl
          · cases g9
            exact absurd e9 (by decide)
          · cases g9
            exact absurd e9 (by decide)
        · exact absurd (by decide) (c33 4 (by decide))
      · have hc := e8 (by omega)
        obtain ⟨w, hw, hw2⟩ := (hN c (by omega)).2
        obtain ⟨o2, W, E2, q2, f2⟩ := e_wahp (S := S) (sh := sh) hM XS52 (by omega) f (by omega) hw2 hw E (by omega)
        refine ⟨o2, W, ev_qe (D := 2 * g + 7) P308 rfl ?_, by omega, f2⟩
        refine wp_sipush 321 k308_0 (by decide) ?_
        refine wp_iconst 4 k308_3 (by decide) ?_
        refine wp_iload_n k308_4 rfl rfl ?_
        refine wp_imul k308_5 ?_
        refine wp_cast (show (4 : Int32) * Int32.ofNat (k) = Int32.ofNat (4 * k) from (Int32.ofNat_mul 4 _).symm) ?_
        refine wp_iadd k308_6 ?_
        refine wp_cast (show (321 : Int32) + Int32.ofNat (4 * k) = Int32.ofNat (321 + (4 * k)) from (Int32.ofNat_add 321 _).symm) ?_
        refine wp_istore_n (L1 := [_, _, _, _, _]) k308_7 rfl rfl ?_
        refine wp_aload_n k308_8 rfl rfl ?_
        refine wp_getR k308_9 (by decide) hM.o rfl ?_
        refine wp_iload_n k308_12 rfl rfl ?_
        refine wp_iconst 1 k308_13 (by decide) ?_
        refine wp_iadd k308_14 ?_
        refine wp_cast (show Int32.ofNat (321 + (4 * k)) + (1 : Int32) = Int32.ofNat ((321 + (4 * k)) + 1) from (Int32.ofNat_add _ 1).symm) ?_
        refine wp_iaload k308_15 (by decide) (hM.a313) (i_inO (by omega) (by decide)) ((321 + (4 * k)) + 1) (i_un (by omega)) (Int32.ofNat (k - 1)) v2 ?_
        refine wp_istore_n (L1 := [_, _, _, _, _]) k308_16 rfl rfl ?_
        refine wp_aload_n k308_17 rfl rfl ?_
        refine wp_getR k308_18 (by decide) hM.o rfl ?_
        refine wp_iload_n k308_21 rfl rfl ?_
        refine wp_iconst 2 k308_22 (by decide) ?_
        refine wp_iadd k308_23 ?_
        refine wp_cast (show Int32.ofNat (321 + (4 * k)) + (2 : Int32) = Int32.ofNat ((321 + (4 * k)) + 2) from (Int32.ofNat_add _ 2).symm) ?_
        refine wp_iaload k308_24 (by decide) (hM.a313) (i_inO (by omega) (by decide)) ((321 + (4 * k)) + 2) (i_un (by omega)) (Int32.ofNat c) v3 ?_
        refine wp_istore (L1 := [_, _, _, _, _]) k308_25 rfl rfl ?_
        refine wp_aload_n k308_27 rfl rfl ?_
        refine wp_getR k308_28 (by decide) hM.o rfl ?_
        refine wp_iload_n k308_31 rfl rfl ?_
        refine wp_iaload k308_32 (by decide) (hM.a313) (i_inO (by omega) (by decide)) (321 + (4 * k)) (i_un (by omega)) (Int32.ofNat 5) v1 ?_
        refine wp_tsw k308_33 (fun i9 t9 g9 e9 => ?_) (fun c33 => ?_) (by decide)
        · have b9 : i9 < 7 := (List.getElem?_eq_some_iff.mp g9).1
          obtain rfl | rfl | rfl | rfl | rfl | rfl | rfl : i9 = 0 ∨ i9 = 1 ∨ i9 = 2 ∨ i9 = 3 ∨ i9 = 4 ∨ i9 = 5 ∨ i9 = 6 := by omega
          · cases g9
            exact absurd e9 (by decide)
          · cases g9
            exact absurd e9 (by decide)
          · cases g9
            exact absurd e9 (by decide)
          · cases g9
            exact absurd e9 (by decide)
          · cases g9
            exact absurd e9 (by decide)
          · cases g9
            refine wp_aload_n k308_131 rfl rfl ?_
            refine wp_ldc_wR k308_132 ?_
            refine wp_iload k308_135 rfl rfl ?_
            refine wp_iload_n k308_137 rfl rfl ?_
            refine wp_cvn (st2 := []) k308_138 E2 (by decide) rfl rfl rfl rfl (by decide) hM.o (by omega) ?_
            exact wp_retn k308_141 rfl rfl
          · cases g9
            exact absurd e9 (by decide)
        · exact absurd (by decide) (c33 5 (by decide))
      · obtain ⟨o2, W, E2, q2, f2⟩ := e_wah (S := S) (sh := sh) hM XS54 (by omega) f E (by omega)
        refine ⟨o2, W, ev_qe (D := 2 * g + 7) P308 rfl ?_, by omega, f2⟩
        refine wp_sipush 321 k308_0 (by decide) ?_
        refine wp_iconst 4 k308_3 (by decide) ?_
        refine wp_iload_n k308_4 rfl rfl ?_
        refine wp_imul k308_5 ?_
        refine wp_cast (show (4 : Int32) * Int32.ofNat (k) = Int32.ofNat (4 * k) from (Int32.ofNat_mul 4 _).symm) ?_
        refine wp_iadd k308_6 ?_
        refine wp_cast (show (321 : Int32) + Int32.ofNat (4 * k) = Int32.ofNat (321 + (4 * k)) from (Int32.ofNat_add 321 _).symm) ?_
        refine wp_istore_n (L1 := [_, _, _, _, _]) k308_7 rfl rfl ?_
        refine wp_aload_n k308_8 rfl rfl ?_
        refine wp_getR k308_9 (by decide) hM.o rfl ?_
        refine wp_iload_n k308_12 rfl rfl ?_
        refine wp_iconst 1 k308_13 (by decide) ?_
        refine wp_iadd k308_14 ?_
        refine wp_cast (show Int32.ofNat (321 + (4 * k)) + (1 : Int32) = Int32.ofNat ((321 + (4 * k)) + 1) from (Int32.ofNat_add _ 1).symm) ?_
        refine wp_iaload k308_15 (by decide) (hM.a313) (i_inO (by omega) (by decide)) ((321 + (4 * k)) + 1) (i_un (by omega)) (Int32.ofNat (k - 1)) v2 ?_
        refine wp_istore_n (L1 := [_, _, _, _, _]) k308_16 rfl rfl ?_
        refine wp_aload_n k308_17 rfl rfl ?_
        refine wp_getR k308_18 (by decide) hM.o rfl ?_
        refine wp_iload_n k308_21 rfl rfl ?_
        refine wp_iconst 2 k308_22 (by decide) ?_
        refine wp_iadd k308_23 ?_
        refine wp_cast (show Int32.ofNat (321 + (4 * k)) + (2 : Int32) = Int32.ofNat ((321 + (4 * k)) + 2) from (Int32.ofNat_add _ 2).symm) ?_
        refine wp_iaload k308_24 (by decide) (hM.a313) (i_inO (by omega) (by decide)) ((321 + (4 * k)) + 2) (i_un (by omega)) (Int32.ofNat c) v3 ?_
        refine wp_istore (L1 := [_, _, _, _, _]) k308_25 rfl rfl ?_
        refine wp_aload_n k308_27 rfl rfl ?_
        refine wp_getR k308_28 (by decide) hM.o rfl ?_
        refine wp_iload_n k308_31 rfl rfl ?_
        refine wp_iaload k308_32 (by decide) (hM.a313) (i_inO (by omega) (by decide)) (321 + (4 * k)) (i_un (by omega)) (Int32.ofNat 6) v1 ?_
        refine wp_tsw k308_33 (fun i9 t9 g9 e9 => ?_) (fun c33 => ?_) (by decide)
        · have b9 : i9 < 7 := (List.getElem?_eq_some_iff.mp g9).1
          obtain rfl | rfl | rfl | rfl | rfl | rfl | rfl : i9 = 0 ∨ i9 = 1 ∨ i9 = 2 ∨ i9 = 3 ∨ i9 = 4 ∨ i9 = 5 ∨ i9 = 6 := by omega
          · cases g9
            exact absurd e9 (by decide)
          · cases g9
            exact absurd e9 (by decide)
          · cases g9
            exact absurd e9 (by decide)
          · cases g9
            exact absurd e9 (by decide)
          · cases g9
            exact absurd e9 (by decide)
          · cases g9
            exact absurd e9 (by decide)
          · cases g9
            refine wp_aload_n k308_142 rfl rfl ?_
            refine wp_ldc_wR k308_143 ?_
            refine wp_iconst (-1) k308_146 (by decide) ?_
            refine wp_iload_n k308_147 rfl rfl ?_
            refine wp_cvn (st2 := []) k308_148 E2 (by decide) rfl rfl rfl rfl (by decide) hM.o (by omega) ?_
            exact wp_retn k308_151 rfl rfl
        · exact absurd (by decide) (c33 6 (by decide))
      · obtain ⟨o2, W, E2, q2, f2⟩ := e_wah (S := S) (sh := sh) hM XS56 (by omega) f E (by omega)
        refine ⟨o2, W, ev_qe (D := 2 * g + 7) P308 rfl ?_, by omega, f2⟩
        refine wp_sipush 321 k308_0 (by decide) ?_
        refine wp_iconst 4 k308_3 (by decide) ?_
        refine wp_iload_n k308_4 rfl rfl ?_
        refine wp_imul k308_5 ?_
        refine wp_cast (show (4 : Int32) * Int32.ofNat (k) = Int32.ofNat (4 * k) from (Int32.ofNat_mul 4 _).symm) ?_
        refine wp_iadd k308_6 ?_
        refine wp_cast (show (321 : Int32) + Int32.ofNat (4 * k) = Int32.ofNat (321 + (4 * k)) from (Int32.ofNat_add 321 _).symm) ?_
        refine wp_istore_n (L1 := [_, _, _, _, _]) k308_7 rfl rfl ?_
        refine wp_aload_n k308_8 rfl rfl ?_
        refine wp_getR k308_9 (by decide) hM.o rfl ?_
        refine wp_iload_n k308_12 rfl rfl ?_
        refine wp_iconst 1 k308_13 (by decide) ?_
        refine wp_iadd k308_14 ?_
        refine wp_cast (show Int32.ofNat (321 + (4 * k)) + (1 : Int32) = Int32.ofNat ((321 + (4 * k)) + 1) from (Int32.ofNat_add _ 1).symm) ?_
        refine wp_iaload k308_15 (by decide) (hM.a313) (i_inO (by omega) (by decide)) ((321 + (4 * k)) + 1) (i_un (by omega)) (Int32.ofNat (k - 1)) v2 ?_
        refine wp_istore_n (L1 := [_, _, _, _, _]) k308_16 rfl rfl ?_
        refine wp_aload_n k308_17 rfl rfl ?_
        refine wp_getR k308_18 (by decide) hM.o rfl ?_
        refine wp_iload_n k308_21 rfl rfl ?_
        refine wp_iconst 2 k308_22 (by decide) ?_
        refine wp_iadd k308_23 ?_
        refine wp_cast (show Int32.ofNat (321 + (4 * k)) + (2 : Int32) = Int32.ofNat ((321 + (4 * k)) + 2) from (Int32.ofNat_add _ 2).symm) ?_
        refine wp_iaload k308_24 (by decide) (hM.a313) (i_inO (by omega) (by decide)) ((321 + (4 * k)) + 2) (i_un (by omega)) (Int32.ofNat c) v3 ?_
        refine wp_istore (L1 := [_, _, _, _, _]) k308_25 rfl rfl ?_
        refine wp_aload_n k308_27 rfl rfl ?_
        refine wp_getR k308_28 (by decide) hM.o rfl ?_
        refine wp_iload_n k308_31 rfl rfl ?_
        refine wp_iaload k308_32 (by decide) (hM.a313) (i_inO (by omega) (by decide)) (321 + (4 * k)) (i_un (by omega)) (Int32.ofNat 7) v1 ?_
        refine wp_tsw k308_33 (fun i9 t9 g9 e9 => ?_) (fun c33 => ?_) (by decide)
        · have b9 : i9 < 7 := (List.getElem?_eq_some_iff.mp g9).1
          obtain rfl | rfl | rfl | rfl | rfl | rfl | rfl : i9 = 0 ∨ i9 = 1 ∨ i9 = 2 ∨ i9 = 3 ∨ i9 = 4 ∨ i9 = 5 ∨ i9 = 6 := by omega
          · cases g9
            exact absurd e9 (by decide)
          · cases g9
            exact absurd e9 (by decide)
          · cases g9
            exact absurd e9 (by decide)
          · cases g9
            exact absurd e9 (by decide)
          · cases g9
            exact absurd e9 (by decide)
          · cases g9
            exact absurd e9 (by decide)
          · cases g9
            exact absurd e9 (by decide)
        · refine wp_aload_n k308_152 rfl rfl ?_
          refine wp_ldc_wR k308_153 ?_
          refine wp_iconst (-1) k308_156 (by decide) ?_
          refine wp_iload_n k308_157 rfl rfl ?_
          refine wp_cvn (st2 := []) k308_158 E2 (by decide) rfl rfl rfl rfl (by decide) hM.o (by omega) ?_
          exact wp_retn k308_161 rfl rfl
    · have z := i_inj (by omega) (by omega) (e1.symm.trans h2)
      subst z
      have z := i_inj (by omega) (by omega) (e2.symm.trans h5')
      subst z
      have z := i_inj (by omega) (by omega) (e3.symm.trans h6)
      subst z
      have EA := ih lo a h7 (by omega)
      have EB := ih (a + 1) (k - 1) h8 (by omega)
      rcases h1 with rfl | rfl
      · obtain ⟨o2, W, E2, q2, f2⟩ := e_wtwo (S := S) (sh := sh) hM XS30 (by omega) f EA EB (by omega)
        refine ⟨o2, W, ev_qe (D := 2 * g + 7) P308 rfl ?_, by omega, f2⟩
        refine wp_sipush 321 k308_0 (by decide) ?_
        refine wp_iconst 4 k308_3 (by decide) ?_
        refine wp_iload_n k308_4 rfl rfl ?_
        refine wp_imul k308_5 ?_
        refine wp_cast (show (4 : Int32) * Int32.ofNat (k) = Int32.ofNat (4 * k) from (Int32.ofNat_mul 4 _).symm) ?_
        refine wp_iadd k308_6 ?_
        refine wp_cast (show (321 : Int32) + Int32.ofNat (4 * k) = Int32.ofNat (321 + (4 * k)) from (Int32.ofNat_add 321 _).symm) ?_
        refine wp_istore_n (L1 := [_, _, _, _, _]) k308_7 rfl rfl ?_
        refine wp_aload_n k308_8 rfl rfl ?_
        refine wp_getR k308_9 (by decide) hM.o rfl ?_
        refine wp_iload_n k308_12 rfl rfl ?_
        refine wp_iconst 1 k308_13 (by decide) ?_
        refine wp_iadd k308_14 ?_
        refine wp_cast (show Int32.ofNat (321 + (4 * k)) + (1 : Int32) = Int32.ofNat ((321 + (4 * k)) + 1) from (Int32.ofNat_add _ 1).symm) ?_
        refine wp_iaload k308_15 (by decide) (hM.a313) (i_inO (by omega) (by decide)) ((321 + (4 * k)) + 1) (i_un (by omega)) (Int32.ofNat a) v2 ?_
        refine wp_istore_n (L1 := [_, _, _, _, _]) k308_16 rfl rfl ?_
        refine wp_aload_n k308_17 rfl rfl ?_
        refine wp_getR k308_18 (by decide) hM.o rfl ?_
        refine wp_iload_n k308_21 rfl rfl ?_
        refine wp_iconst 2 k308_22 (by decide) ?_
        refine wp_iadd k308_23 ?_
        refine wp_cast (show Int32.ofNat (321 + (4 * k)) + (2 : Int32) = Int32.ofNat ((321 + (4 * k)) + 2) from (Int32.ofNat_add _ 2).symm) ?_
        refine wp_iaload k308_24 (by decide) (hM.a313) (i_inO (by omega) (by decide)) ((321 + (4 * k)) + 2) (i_un (by omega)) (Int32.ofNat (k - 1)) v3 ?_
        refine wp_istore (L1 := [_, _, _, _, _]) k308_25 rfl rfl ?_
        refine wp_aload_n k308_27 rfl rfl ?_
        refine wp_getR k308_28 (by decide) hM.o rfl ?_
        refine wp_iload_n k308_31 rfl rfl ?_
        refine wp_iaload k308_32 (by decide) (hM.a313) (i_inO (by omega) (by decide)) (321 + (4 * k)) (i_un (by omega)) (Int32.ofNat 2) v1 ?_
        refine wp_tsw k308_33 (fun i9 t9 g9 e9 => ?_) (fun c33 => ?_) (by decide)
        · have b9 : i9 < 7 := (List.getElem?_eq_some_iff.mp g9).1
          obtain rfl | rfl | rfl | rfl | rfl | rfl | rfl : i9 = 0 ∨ i9 = 1 ∨ i9 = 2 ∨ i9 = 3 ∨ i9 = 4 ∨ i9 = 5 ∨ i9 = 6 := by omega
          · cases g9
            exact absurd e9 (by decide)
          · cases g9
            exact absurd e9 (by decide)
          · cases g9
            refine wp_aload_n k308_98 rfl rfl ?_
            refine wp_iload_n k308_99 rfl rfl ?_
            refine wp_iload k308_100 rfl rfl ?_
            refine wp_ldc_wR k308_102 ?_
            refine wp_cvn (st2 := []) k308_105 E2 (by decide) rfl rfl rfl rfl (by decide) hM.o (by omega) ?_
            exact wp_retn k308_108 rfl rfl
          · cases g9
            exact absurd e9 (by decide)
          · cases g9
            exact absurd e9 (by decide)
          · cases g9
            exact absurd e9 (by decide)
          · cases g9
            exact absurd e9 (by decide)
        · exact absurd (by decide) (c33 2 (by decide))
      · obtain ⟨o2, W, E2, q2, f2⟩ := e_wtwo (S := S) (sh := sh) hM XS32 (by omega) f EA EB (by omega)
        refine ⟨o2, W, ev_qe (D := 2 * g + 7) P308 rfl ?_, by omega, f2⟩
        refine wp_sipush 321 k308_0 (by decide) ?_
        refine wp_iconst 4 k308_3 (by decide) ?_
        refine wp_iload_n k308_4 rfl rfl ?_
        refine wp_imul k308_5 ?_
        refine wp_cast (show (4 : Int32) * Int32.ofNat (k) = Int32.ofNat (4 * k) from (Int32.ofNat_mul 4 _).symm) ?_
        refine wp_iadd k308_6 ?_
        refine wp_cast (show (321 : Int32) + Int32.ofNat (4 * k) = Int32.ofNat (321 + (4 * k)) from (Int32.ofNat_add 321 _).symm) ?_
        refine wp_istore_n (L1 := [_, _, _, _, _]) k308_7 rfl rfl ?_
        refine wp_aload_n k308_8 rfl rfl ?_
        refine wp_getR k308_9 (by decide) hM.o rfl ?_
        refine wp_iload_n k308_12 rfl rfl ?_
        refine wp_iconst 1 k308_13 (by decide) ?_
        refine wp_iadd k308_14 ?_
        refine wp_cast (show Int32.ofNat (321 + (4 * k)) + (1 : Int32) = Int32.ofNat ((321 + (4 * k)) + 1) from (Int32.ofNat_add _ 1).symm) ?_
        refine wp_iaload k308_15 (by decide) (hM.a313) (i_inO (by omega) (by decide)) ((321 + (4 * k)) + 1) (i_un (by omega)) (Int32.ofNat a) v2 ?_
        refine wp_istore_n (L1 := [_, _, _, _, _]) k308_16 rfl rfl ?_
        refine wp_aload_n k308_17 rfl rfl ?_
        refine wp_getR k308_18 (by decide) hM.o rfl ?_
        refine wp_iload_n k308_21 rfl rfl ?_
        refine wp_iconst 2 k308_22 (by decide) ?_
        refine wp_iadd k308_23 ?_
        refine wp_cast (show Int32.ofNat (321 + (4 * k)) + (2 : Int32) = Int32.ofNat ((321 + (4 * k)) + 2) from (Int32.ofNat_add _ 2).symm) ?_
        refine wp_iaload k308_24 (by decide) (hM.a313) (i_inO (by omega) (by decide)) ((321 + (4 * k)) + 2) (i_un (by omega)) (Int32.ofNat (k - 1)) v3 ?_
        refine wp_istore (L1 := [_, _, _, _, _]) k308_25 rfl rfl ?_
        refine wp_aload_n k308_27 rfl rfl ?_
        refine wp_getR k308_28 (by decide) hM.o rfl ?_
        refine wp_iload_n k308_31 rfl rfl ?_
        refine wp_iaload k308_32 (by decide) (hM.a313) (i_inO (by omega) (by decide)) (321 + (4 * k)) (i_un (by omega)) (Int32.ofNat 3) v1 ?_
        refine wp_tsw k308_33 (fun i9 t9 g9 e9 => ?_) (fun c33 => ?_) (by decide)
        · have b9 : i9 < 7 := (List.getElem?_eq_some_iff.mp g9).1
          obtain rfl | rfl | rfl | rfl | rfl | rfl | rfl : i9 = 0 ∨ i9 = 1 ∨ i9 = 2 ∨ i9 = 3 ∨ i9 = 4 ∨ i9 = 5 ∨ i9 = 6 := by omega
          · cases g9
            exact absurd e9 (by decide)
          · cases g9
            exact absurd e9 (by decide)
          · cases g9
            exact absurd e9 (by decide)
          · cases g9
            refine wp_aload_n k308_109 rfl rfl ?_
            refine wp_iload_n k308_110 rfl rfl ?_
            refine wp_iload k308_111 rfl rfl ?_
            refine wp_ldc_wR k308_113 ?_
            refine wp_cvn (st2 := []) k308_116 E2 (by decide) rfl rfl rfl rfl (by decide) hM.o (by omega) ?_
            exact wp_retn k308_119 rfl rfl
          · cases g9
            exact absurd e9 (by decide)
          · cases g9
            exact absurd e9 (by decide)
          · cases g9
            exact absurd e9 (by decide)
        · exact absurd (by decide) (c33 3 (by decide))
end M61
