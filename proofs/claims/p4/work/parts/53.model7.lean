section M7
/-! ===== the reference: names read and laid, nodes made ===== -/
theorem muE_0 {e c : Int32} (h : e = 0) : muE 0 e c = c := by unfold muE wrE; rw [if_pos rfl, if_pos h]
theorem muE_1 {e c : Int32} : muE 1 e c = e := if_neg (by decide)
def nmB (G : Nat → Int32) (f : Nat → Int32) (l b w t : Nat) : Bool := decide (G t = Int32.ofNat w) && allF (fun k => decide (G (t + 1 + k) = byt f l (b + k))) w 0
/-- the first one, from k on, of m -/
def fnF (g : Nat → Bool) : Nat → Nat → Int32
  | 0, _ => -1
  | m + 1, k => if g k = true then Int32.ofNat k else fnF g m (k + 1)
def nmOK (f : Nat → Int32) (l a : Nat) : Bool := decide (1 ≤ wn f l a ∧ wn f l a ≤ 6) && !owW f l a
def rnP (G : Nat → Int32) (f : Nat → Int32) (l base many : Nat) (T : hP) : Int32 × hP := if er T = 0 then (if nmOK f l T.1 = true then (fnF (fun k => nmB G f l (sk f l T.1) (wn f l T.1) (base + 7 * k)) many 0, goP (muP 1 1 (nxP f l T))) else (-1, muP 0 1 (nxP f l T))) else (-1, T)
def knP (G : Nat → Int32) (f : Nat → Int32) (l base many : Nat) (T : hP) : Int32 × hP := (if er (muP (if (rnP G f l base many T).1 = -1 then 0 else 1) 2 (rnP G f l base many T).2) = 0 then (rnP G f l base many T).1 else 0, muP (if (rnP G f l base many T).1 = -1 then 0 else 1) 2 (rnP G f l base many T).2)
theorem w6 {w : Nat} (hw : w ≤ 600) : decide ((1 : Int64) ≤ (Int32.ofNat w).toInt64 ∧ (Int32.ofNat w).toInt64 ≤ Int64.ofNat 6) = decide (1 ≤ w ∧ w ≤ 6) := by
  rw [show (1 : Int64) = (Int32.ofNat 1).toInt64 from rfl, show Int64.ofNat 6 = (Int32.ofNat 6).toInt64 from rfl]
  simp only [l_le, le_nlt]
  have h1 : (Int32.ofNat w < Int32.ofNat 1) ↔ w < 1 := Int32.ofNat_lt_iff_lt (by omega) (by omega)
  have h2 : (Int32.ofNat 6 < Int32.ofNat w) ↔ 6 < w := Int32.ofNat_lt_iff_lt (by omega) (by omega)
  simp only [h1, h2]
  congr 1
  apply propext
  omega
theorem e_personsP {S : ww_S} {sh : List mm_C} {V : hV} {a b w : Nat} {e ea : Int32} (hM : MS sh) {n : Nat} (hn : V.1 313 1 = Int32.ofNat n) : EV S 1 179 [.ref 312] (hH sh (ps V a b w e ea)) (.inl (some (.int (Int32.ofNat n)))) (hH sh (ps V a b w e ea)) := by
  have h := e_persons (S := S) hM (V := ps V a b w e ea)
  rw [show (ps V a b w e ea).1 313 1 = Int32.ofNat n from hn] at h
  exact h
theorem e_factsP {S : ww_S} {sh : List mm_C} {V : hV} {a b w : Nat} {e ea : Int32} (hM : MS sh) {n : Nat} (hn : V.1 313 0 = Int32.ofNat n) : EV S 1 178 [.ref 312] (hH sh (ps V a b w e ea)) (.inl (some (.int (Int32.ofNat n)))) (hH sh (ps V a b w e ea)) := by
  have h := e_facts (S := S) hM (V := ps V a b w e ea)
  rw [show (ps V a b w e ea).1 313 0 = Int32.ofNat n from hn] at h
  exact h
theorem l_isNamed {S : ww_S} {sh : List mm_C} {V : hV} {T : hP} (hM : MS sh) {f : Nat → Int32} {l : Nat} (hT : TX V f l) (hb : T.2.1 ≤ 3000) {t : Nat} (hw : T.2.2.1 ≤ 6) (ht : t + 10 ≤ 564) : ∀ (m i : Nat), m + i = T.2.2.1 → WP S 1 mm_m210 17 [some (.ref 312), some (.int (Int32.ofNat t)), some (.int (Int32.ofNat i))] [] (hH sh (pp V T)) (qe (.inl (some (.int (bI (allF (fun k => decide (V.1 313 (t + 1 + k) = byt f l (T.2.1 + k))) m i))))) (hH sh (pp V T))) := by
  intro m
  induction m with
  | zero =>
    intro i hi
    refine wp_iload_n k210_17 rfl rfl ?_
    refine wp_aload_n k210_18 rfl rfl ?_
    refine wp_getI k210_19 (by decide) hM.o rfl (Int32.ofNat (T.2.2.1)) rfl ?_
    refine wp_if_icmp_ge_T k210_22 (i_nlt (by omega) (by omega)) ?_
    refine wp_iconst 1 k210_56 (by decide) ?_
    exact wp_retz k210_57 rfl rfl rfl
  | succ m ih =>
    intro i hi
    refine wp_iload_n k210_17 rfl rfl ?_
    refine wp_aload_n k210_18 rfl rfl ?_
    refine wp_getI k210_19 (by decide) hM.o rfl (Int32.ofNat (T.2.2.1)) rfl ?_
    refine wp_if_icmp_ge_F k210_22 (i_lt (by omega) (by omega)) ?_
    refine wp_aload_n k210_25 rfl rfl ?_
    refine wp_getR k210_26 (by decide) hM.o rfl ?_
    refine wp_iload_n k210_29 rfl rfl ?_
    refine wp_iconst 1 k210_30 (by decide) ?_
    refine wp_iadd k210_31 ?_
    refine wp_cast (show Int32.ofNat (t) + (1 : Int32) = Int32.ofNat (t + 1) from (Int32.ofNat_add _ 1).symm) ?_
    refine wp_iload_n k210_32 rfl rfl ?_
    refine wp_iadd k210_33 ?_
    refine wp_cast (i_add _ _) ?_
    refine wp_ialoadP k210_34 (by decide) (hM.a313) (i_inO (by omega) (by decide)) ((t + 1) + i) (i_un (by omega)) (by decide) _ rfl ?_
    refine wp_aload_n k210_35 rfl rfl ?_
    refine wp_aload_n k210_36 rfl rfl ?_
    refine wp_getI k210_37 (by decide) hM.o rfl (Int32.ofNat (T.2.1)) rfl ?_
    refine wp_iload_n k210_40 rfl rfl ?_
    refine wp_iadd k210_41 ?_
    refine wp_cast (i_add _ _) ?_
    refine wp_cv (st2 := [_]) k210_42 (e_byteT hM hT (by omega)) (by decide) rfl rfl rfl rfl (by decide) hM.o (by decide) ?_
    refine wp_if_icmp_eq k210_45 (fun c45 => ?_) (fun c45 => ?_)
    · refine wp_iinc (L1 := [_, _, _]) 1 k210_50 rfl (by decide) rfl ?_
      refine wp_goto k210_53 ?_
      refine wp_eq ((ih (i + 1) (by omega)).imp fun v g q => ?_) (by rw [i_succ]) rfl rfl
      rw [show allF (fun k => decide (V.1 313 (t + 1 + k) = byt f l (T.2.1 + k))) (m + 1) i = allF (fun k => decide (V.1 313 (t + 1 + k) = byt f l (T.2.1 + k))) m (i + 1) from by simp only [allF]; rw [decide_eq_true c45, Bool.true_and]]
      exact q
    · refine wp_iconst 0 k210_48 (by decide) ?_
      exact wp_retz k210_49 rfl (by simp only [allF]; rw [decide_eq_false c45]; rfl) rfl
theorem e_isNamed {S : ww_S} {sh : List mm_C} {V : hV} {T : hP} (hM : MS sh) {f : Nat → Int32} {l : Nat} (hT : TX V f l) (hb : T.2.1 ≤ 3000) {t : Nat} (hw : T.2.2.1 ≤ 6) (ht : t + 10 ≤ 564) : EV S 2 210 [.ref 312, .int (Int32.ofNat t)] (hH sh (pp V T)) (.inl (some (.int (bI (nmB (V.1 313) f l T.2.1 T.2.2.1 t))))) (hH sh (pp V T)) := by
  refine ev_qe P210 rfl ?_
  refine wp_aload_n k210_0 rfl rfl ?_
  refine wp_getR k210_1 (by decide) hM.o rfl ?_
  refine wp_iload_n k210_4 rfl rfl ?_
  refine wp_ialoadP k210_5 (by decide) (hM.a313) (i_inO (by omega) (by decide)) (t) (i_un (by omega)) (by decide) _ rfl ?_
  refine wp_aload_n k210_6 rfl rfl ?_
  refine wp_getI k210_7 (by decide) hM.o rfl (Int32.ofNat (T.2.2.1)) rfl ?_
  refine wp_if_icmp_eq k210_10 (fun c10 => ?_) (fun c10 => ?_)
  · refine wp_iconst 0 k210_15 (by decide) ?_
    refine wp_istore_n (L1 := [_, _, _]) k210_16 rfl rfl ?_
    refine (l_isNamed hM hT hb hw ht T.2.2.1 0 (by omega)).imp fun v g q => ?_
    rw [show nmB (V.1 313) f l T.2.1 T.2.2.1 t = allF (fun k => decide (V.1 313 (t + 1 + k) = byt f l (T.2.1 + k))) T.2.2.1 0 from by unfold nmB; rw [decide_eq_true c10, Bool.true_and]]
    exact q
  · refine wp_iconst 0 k210_13 (by decide) ?_
    exact wp_retz k210_14 rfl (by unfold nmB; rw [decide_eq_false c10]; rfl) rfl
theorem l_readsNameP {S : ww_S} {sh : List mm_C} {V : hV} {T : hP} (hM : MS sh) {f : Nat → Int32} {l : Nat} (hT : TX V f l) (ha : T.1 ≤ 1000) (hw : wn f l T.1 ≤ 6) {np : Nat} (hnp : V.1 313 1 = Int32.ofNat np) (h5 : np ≤ 5) {c : Int32} : ∀ (m i : Nat), m + i = np → WP S 6 mm_m211 87 [some (.ref 312), some (.int (1)), some (.int (c)), some (.int (Int32.ofNat np)), some (.int (Int32.ofNat i))] [] (hH sh (pp V (goP (muP 1 1 (nxP f l T))))) (qe (.inl (some (.int (fnF (fun k => nmB (V.1 313) f l (sk f l T.1) (wn f l T.1) (115 + 7 * k)) m i)))) (hH sh (pp V (goP (muP 1 1 (nxP f l T)))))) := by
  have hs : sk f l T.1 ≤ 1600 := by
    have := sk_le f l T.1
    have := hT.2.1
    omega
  intro m
  induction m with
  | zero =>
    intro i hi
    refine wp_iload k211_87 rfl rfl ?_
    refine wp_iload_n k211_89 rfl rfl ?_
    refine wp_if_icmp_ge_T k211_90 (i_nlt (by omega) (by omega)) ?_
    refine wp_iconst (-1) k211_126 (by decide) ?_
    exact wp_reti k211_127 rfl rfl rfl
  | succ m ih =>
    intro i hi
    refine wp_iload k211_87 rfl rfl ?_
    refine wp_iload_n k211_89 rfl rfl ?_
    refine wp_if_icmp_ge_F k211_90 (i_lt (by omega) (by omega)) ?_
    refine wp_aload_n k211_93 rfl rfl ?_
    refine wp_iload_n k211_94 rfl rfl ?_
    refine wp_if_eq_F k211_95 (by decide) ?_
    refine wp_bipush 115 k211_98 (by decide) ?_
    refine wp_goto k211_100 ?_
    refine wp_bipush 7 k211_105 (by decide) ?_
    refine wp_iload k211_107 rfl rfl ?_
    refine wp_imul k211_109 ?_
    refine wp_cast (show (7 : Int32) * Int32.ofNat (i) = Int32.ofNat (7 * i) from (Int32.ofNat_mul 7 _).symm) ?_
    refine wp_iadd k211_110 ?_
    refine wp_cast (show (115 : Int32) + Int32.ofNat (7 * i) = Int32.ofNat (115 + (7 * i)) from (Int32.ofNat_add 115 _).symm) ?_
    refine wp_cv (st2 := []) k211_111 (e_isNamed (T := goP (muP 1 1 (nxP f l T))) (V := V) hM hT (show sk f l T.1 ≤ 3000 by omega) (show wn f l T.1 ≤ 6 from hw) (by omega)) (by decide) rfl rfl rfl rfl (by decide) hM.o (by decide) ?_
    refine wp_if_eq k211_114 (fun c114 => ?_) (fun c114 => ?_)
    · refine wp_iinc (L1 := [_, _, _, _, _]) 1 k211_120 rfl (by decide) rfl ?_
      refine wp_goto k211_123 ?_
      refine wp_eq ((ih (i + 1) (by omega)).imp fun v g q => ?_) (by rw [i_succ]) rfl rfl
      rw [show fnF (fun k => nmB (V.1 313) f l (sk f l T.1) (wn f l T.1) (115 + 7 * k)) (m + 1) i = fnF (fun k => nmB (V.1 313) f l (sk f l T.1) (wn f l T.1) (115 + 7 * k)) m (i + 1) from if_neg (fun q9 => absurd (q9.symm.trans (bI_0.mp c114)) (by decide))]
      exact q
    · refine wp_iload k211_117 rfl rfl ?_
      exact wp_reti k211_119 rfl (by rw [show fnF (fun k => nmB (V.1 313) f l (sk f l T.1) (wn f l T.1) (115 + 7 * k)) (m + 1) i = Int32.ofNat i from if_pos (bI_n0.mp c114)]) rfl
theorem e_readsNameP {S : ww_S} {sh : List mm_C} {V : hV} {T : hP} (hM : MS sh) {f : Nat → Int32} {l : Nat} (hT : TX V f l) (ha : T.1 ≤ 1000) {np : Nat} (hnp : V.1 313 1 = Int32.ofNat np) (h5 : np ≤ 5) : EV S 7 211 [.ref 312, .int 1] (hH sh (pp V T)) (.inl (some (.int (rnP (V.1 313) f l 115 np T).1))) (hH sh (pp V (rnP (V.1 313) f l 115 np T).2)) := by
  refine ev_qe P211 rfl ?_
  have hs : sk f l T.1 ≤ 1600 := by
    have := sk_le f l T.1
    have := hT.2.1
    omega
  have hw : wn f l T.1 ≤ 600 := by
    have := wn_le f l T.1
    have := hT.2.1
    omega
  refine wp_aload_n k211_0 rfl rfl ?_
  refine wp_getI k211_1 (by decide) hM.o rfl (T.2.2.2.1) rfl ?_
  refine wp_if_eq k211_4 (fun c4 => ?_) (fun c4 => ?_)
  · refine wp_aload_n k211_9 rfl rfl ?_
    refine wp_cv (st2 := []) k211_10 (e_nextT hM hT (by omega)) (by decide) rfl rfl rfl rfl (by decide) hM.o (by decide) ?_
    refine wp_istore_n (L1 := [_, _, _, _, _]) k211_13 rfl rfl ?_
    refine wp_aload_n k211_14 rfl rfl ?_
    refine wp_aload_n k211_15 rfl rfl ?_
    refine wp_getI k211_16 (by decide) hM.o rfl (Int32.ofNat ((nxP f l T).2.2.1)) rfl ?_
    refine wp_i2l k211_19 ?_
    refine wp_lconst 1 k211_20 (by decide) ?_
    refine wp_ldc2_w k211_21 ?_
    refine wp_cs (st2 := [_]) k211_24 (e_in) (by decide) rfl rfl rfl (by decide) ?_
    refine wp_if_eq k211_27 (fun c27 => ?_) (fun c27 => ?_)
    · refine wp_iconst 0 k211_41 (by decide) ?_
      refine wp_iconst 1 k211_42 (by decide) ?_
      refine wp_cvn (st2 := []) k211_43 (e_must hM) (by decide) rfl rfl rfl rfl (by decide) hM.o (by decide) ?_
      refine wp_aload_n k211_46 rfl rfl ?_
      refine wp_getI k211_47 (by decide) hM.o rfl ((muP 0 1 (nxP f l T)).2.2.2.1) rfl ?_
      refine wp_if_eq_F k211_50 (by show ¬ muE 0 T.2.2.2.1 1 = 0; rw [muE_0 c4]; decide) ?_
      refine wp_iconst (-1) k211_53 (by decide) ?_
      have h27 : decide (1 ≤ wn f l T.1 ∧ wn f l T.1 ≤ 6) = false := by
        rw [← w6 hw]
        exact bI_0.mp c27
      have hR : rnP (V.1 313) f l 115 np T = (-1, muP 0 1 (nxP f l T)) := by
        unfold rnP
        rw [if_pos c4, if_neg (by unfold nmOK; rw [h27, Bool.false_and]; decide)]
      exact wp_reti k211_54 rfl (by rw [hR]) (by rw [hR]; rfl)
    · refine wp_aload_n k211_30 rfl rfl ?_
      refine wp_cv (st2 := [_]) k211_31 (e_isOwn2 hM hT (by omega)) (by decide) rfl rfl rfl rfl (by decide) hM.o (by decide) ?_
      refine wp_if_ne k211_34 (fun c34 => ?_) (fun c34 => ?_)
      · refine wp_iconst 0 k211_41 (by decide) ?_
        refine wp_iconst 1 k211_42 (by decide) ?_
        refine wp_cvn (st2 := []) k211_43 (e_must hM) (by decide) rfl rfl rfl rfl (by decide) hM.o (by decide) ?_
        refine wp_aload_n k211_46 rfl rfl ?_
        refine wp_getI k211_47 (by decide) hM.o rfl ((muP 0 1 (nxP f l T)).2.2.2.1) rfl ?_
        refine wp_if_eq_F k211_50 (by show ¬ muE 0 T.2.2.2.1 1 = 0; rw [muE_0 c4]; decide) ?_
        refine wp_iconst (-1) k211_53 (by decide) ?_
        have h34 : owW f l T.1 = true := by
          have h9 := bI_n0.mp c34
          rw [Bool.and_eq_true] at h9
          exact h9.2
        have hR : rnP (V.1 313) f l 115 np T = (-1, muP 0 1 (nxP f l T)) := by
          unfold rnP
          rw [if_pos c4, if_neg (by unfold nmOK; rw [h34, Bool.not_true, Bool.and_false]; decide)]
        exact wp_reti k211_54 rfl (by rw [hR]) (by rw [hR]; rfl)
      · refine wp_iconst 1 k211_37 (by decide) ?_
        refine wp_goto k211_38 ?_
        refine wp_iconst 1 k211_42 (by decide) ?_
        refine wp_cvn (st2 := []) k211_43 (e_must hM) (by decide) rfl rfl rfl rfl (by decide) hM.o (by decide) ?_
        refine wp_aload_n k211_46 rfl rfl ?_
        refine wp_getI k211_47 (by decide) hM.o rfl ((muP 1 1 (nxP f l T)).2.2.2.1) rfl ?_
        refine wp_if_eq_T k211_50 (by show muE 1 T.2.2.2.1 1 = 0; rw [muE_1]; exact c4) ?_
        refine wp_aload_n k211_55 rfl rfl ?_
        refine wp_aload_n k211_56 rfl rfl ?_
        refine wp_getI k211_57 (by decide) hM.o rfl (Int32.ofNat ((muP 1 1 (nxP f l T)).2.1)) rfl ?_
        refine wp_aload_n k211_60 rfl rfl ?_
        refine wp_getI k211_61 (by decide) hM.o rfl (Int32.ofNat ((muP 1 1 (nxP f l T)).2.2.1)) rfl ?_
        refine wp_iadd k211_64 ?_
        refine wp_cast (i_add _ _) ?_
        refine wp_ps11 k211_65 hM.o (((muP 1 1 (nxP f l T)).2.1) + ((muP 1 1 (nxP f l T)).2.2.1)) rfl ?_
        refine wp_iload_n k211_68 rfl rfl ?_
        refine wp_if_eq_F k211_69 (by decide) ?_
        refine wp_aload_n k211_72 rfl rfl ?_
        refine wp_cv (st2 := []) k211_73 (e_personsP hM hnp) (by decide) rfl rfl rfl rfl (by decide) hM.o (by decide) ?_
        refine wp_goto k211_76 ?_
        refine wp_istore_n (L1 := [_, _, _, _, _]) k211_83 rfl rfl ?_
        refine wp_iconst 0 k211_84 (by decide) ?_
        refine wp_istore (L1 := [_, _, _, _, _]) k211_85 rfl rfl ?_
        have hw6 : 1 ≤ wn f l T.1 ∧ wn f l T.1 ≤ 6 := by
          have h9 : decide (1 ≤ wn f l T.1 ∧ wn f l T.1 ≤ 6) = true := by
            rw [← w6 hw]
            exact bI_n0.mp c27
          exact of_decide_eq_true h9
        have how : owW f l T.1 = false := by
          have h9 := bI_0.mp c34
          simpa [show T.2.2.2.1 = 0 from c4] using h9
        have hR : rnP (V.1 313) f l 115 np T = (fnF (fun k => nmB (V.1 313) f l (sk f l T.1) (wn f l T.1) (115 + 7 * k)) np 0, goP (muP 1 1 (nxP f l T))) := by
          unfold rnP
          rw [if_pos c4, if_pos (by unfold nmOK; rw [decide_eq_true hw6, how]; rfl)]
        refine (l_readsNameP hM hT ha hw6.2 hnp h5 np 0 (by omega)).imp fun v g q => ?_
        rw [hR]
        exact q
  · refine wp_iconst (-1) k211_7 (by decide) ?_
    exact wp_reti k211_8 rfl (by rw [show rnP (V.1 313) f l 115 np T = (-1, T) from if_neg c4]) (by rw [show rnP (V.1 313) f l 115 np T = (-1, T) from if_neg c4])
theorem l_readsNameF {S : ww_S} {sh : List mm_C} {V : hV} {T : hP} (hM : MS sh) {f : Nat → Int32} {l : Nat} (hT : TX V f l) (ha : T.1 ≤ 1000) (hw : wn f l T.1 ≤ 6) {nf : Nat} (hnf : V.1 313 0 = Int32.ofNat nf) (h5 : nf ≤ 5) {c : Int32} : ∀ (m i : Nat), m + i = nf → WP S 6 mm_m211 87 [some (.ref 312), some (.int (0)), some (.int (c)), some (.int (Int32.ofNat nf)), some (.int (Int32.ofNat i))] [] (hH sh (pp V (goP (muP 1 1 (nxP f l T))))) (qe (.inl (some (.int (fnF (fun k => nmB (V.1 313) f l (sk f l T.1) (wn f l T.1) (80 + 7 * k)) m i)))) (hH sh (pp V (goP (muP 1 1 (nxP f l T)))))) := by
  have hs : sk f l T.1 ≤ 1600 := by
    have := sk_le f l T.1
    have := hT.2.1
    omega
  intro m
  induction m with
  | zero =>
    intro i hi
    refine wp_iload k211_87 rfl rfl ?_
    refine wp_iload_n k211_89 rfl rfl ?_
    refine wp_if_icmp_ge_T k211_90 (i_nlt (by omega) (by omega)) ?_
    refine wp_iconst (-1) k211_126 (by decide) ?_
    exact wp_reti k211_127 rfl rfl rfl
  | succ m ih =>
    intro i hi
    refine wp_iload k211_87 rfl rfl ?_
    refine wp_iload_n k211_89 rfl rfl ?_
    refine wp_if_icmp_ge_F k211_90 (i_lt (by omega) (by omega)) ?_
    refine wp_aload_n k211_93 rfl rfl ?_
    refine wp_iload_n k211_94 rfl rfl ?_
    refine wp_if_eq_T k211_95 (by decide) ?_
    refine wp_bipush 80 k211_103 (by decide) ?_
    refine wp_bipush 7 k211_105 (by decide) ?_
    refine wp_iload k211_107 rfl rfl ?_
    refine wp_imul k211_109 ?_
    refine wp_cast (show (7 : Int32) * Int32.ofNat (i) = Int32.ofNat (7 * i) from (Int32.ofNat_mul 7 _).symm) ?_
    refine wp_iadd k211_110 ?_
    refine wp_cast (show (80 : Int32) + Int32.ofNat (7 * i) = Int32.ofNat (80 + (7 * i)) from (Int32.ofNat_add 80 _).symm) ?_
    refine wp_cv (st2 := []) k211_111 (e_isNamed (T := goP (muP 1 1 (nxP f l T))) (V := V) hM hT (show sk f l T.1 ≤ 3000 by omega) (show wn f l T.1 ≤ 6 from hw) (by omega)) (by decide) rfl rfl rfl rfl (by decide) hM.o (by decide) ?_
    refine wp_if_eq k211_114 (fun c114 => ?_) (fun c114 => ?_)
    · refine wp_iinc (L1 := [_, _, _, _, _]) 1 k211_120 rfl (by decide) rfl ?_
      refine wp_goto k211_123 ?_
      refine wp_eq ((ih (i + 1) (by omega)).imp fun v g q => ?_) (by rw [i_succ]) rfl rfl
      rw [show fnF (fun k => nmB (V.1 313) f l (sk f l T.1) (wn f l T.1) (80 + 7 * k)) (m + 1) i = fnF (fun k => nmB (V.1 313) f l (sk f l T.1) (wn f l T.1) (80 + 7 * k)) m (i + 1) from if_neg (fun q9 => absurd (q9.symm.trans (bI_0.mp c114)) (by decide))]
      exact q
    · refine wp_iload k211_117 rfl rfl ?_
      exact wp_reti k211_119 rfl (by rw [show fnF (fun k => nmB (V.1 313) f l (sk f l T.1) (wn f l T.1) (80 + 7 * k)) (m + 1) i = Int32.ofNat i from if_pos (bI_n0.mp c114)]) rfl
theorem e_readsNameF {S : ww_S} {sh : List mm_C} {V : hV} {T : hP} (hM : MS sh) {f : Nat → Int32} {l : Nat} (hT : TX V f l) (ha : T.1 ≤ 1000) {nf : Nat} (hnf : V.1 313 0 = Int32.ofNat nf) (h5 : nf ≤ 5) : EV S 7 211 [.ref 312, .int 0] (hH sh (pp V T)) (.inl (some (.int (rnP (V.1 313) f l 80 nf T).1))) (hH sh (pp V (rnP (V.1 313) f l 80 nf T).2)) := by
  refine ev_qe P211 rfl ?_
  have hs : sk f l T.1 ≤ 1600 := by
    have := sk_le f l T.1
    have := hT.2.1
    omega
  have hw : wn f l T.1 ≤ 600 := by
    have := wn_le f l T.1
    have := hT.2.1
    omega
  refine wp_aload_n k211_0 rfl rfl ?_
  refine wp_getI k211_1 (by decide) hM.o rfl (T.2.2.2.1) rfl ?_
  refine wp_if_eq k211_4 (fun c4 => ?_) (fun c4 => ?_)
  · refine wp_aload_n k211_9 rfl rfl ?_
    refine wp_cv (st2 := []) k211_10 (e_nextT hM hT (by omega)) (by decide) rfl rfl rfl rfl (by decide) hM.o (by decide) ?_
    refine wp_istore_n (L1 := [_, _, _, _, _]) k211_13 rfl rfl ?_
    refine wp_aload_n k211_14 rfl rfl ?_
    refine wp_aload_n k211_15 rfl rfl ?_
    refine wp_getI k211_16 (by decide) hM.o rfl (Int32.ofNat ((nxP f l T).2.2.1)) rfl ?_
    refine wp_i2l k211_19 ?_
    refine wp_lconst 1 k211_20 (by decide) ?_
    refine wp_ldc2_w k211_21 ?_
    refine wp_cs (st2 := [_]) k211_24 (e_in) (by decide) rfl rfl rfl (by decide) ?_
    refine wp_if_eq k211_27 (fun c27 => ?_) (fun c27 => ?_)
    · refine wp_iconst 0 k211_41 (by decide) ?_
      refine wp_iconst 1 k211_42 (by decide) ?_
      refine wp_cvn (st2 := []) k211_43 (e_must hM) (by decide) rfl rfl rfl rfl (by decide) hM.o (by decide) ?_
      refine wp_aload_n k211_46 rfl rfl ?_
      refine wp_getI k211_47 (by decide) hM.o rfl ((muP 0 1 (nxP f l T)).2.2.2.1) rfl ?_
      refine wp_if_eq_F k211_50 (by show ¬ muE 0 T.2.2.2.1 1 = 0; rw [muE_0 c4]; decide) ?_
      refine wp_iconst (-1) k211_53 (by decide) ?_
      have h27 : decide (1 ≤ wn f l T.1 ∧ wn f l T.1 ≤ 6) = false := by
        rw [← w6 hw]
        exact bI_0.mp c27
      have hR : rnP (V.1 313) f l 80 nf T = (-1, muP 0 1 (nxP f l T)) := by
        unfold rnP
        rw [if_pos c4, if_neg (by unfold nmOK; rw [h27, Bool.false_and]; decide)]
      exact wp_reti k211_54 rfl (by rw [hR]) (by rw [hR]; rfl)
    · refine wp_aload_n k211_30 rfl rfl ?_
      refine wp_cv (st2 := [_]) k211_31 (e_isOwn2 hM hT (by omega)) (by decide) rfl rfl rfl rfl (by decide) hM.o (by decide) ?_
      refine wp_if_ne k211_34 (fun c34 => ?_) (fun c34 => ?_)
      · refine wp_iconst 0 k211_41 (by decide) ?_
        refine wp_iconst 1 k211_42 (by decide) ?_
        refine wp_cvn (st2 := []) k211_43 (e_must hM) (by decide) rfl rfl rfl rfl (by decide) hM.o (by decide) ?_
        refine wp_aload_n k211_46 rfl rfl ?_
        refine wp_getI k211_47 (by decide) hM.o rfl ((muP 0 1 (nxP f l T)).2.2.2.1) rfl ?_
        refine wp_if_eq_F k211_50 (by show ¬ muE 0 T.2.2.2.1 1 = 0; rw [muE_0 c4]; decide) ?_
        refine wp_iconst (-1) k211_53 (by decide) ?_
        have h34 : owW f l T.1 = true := by
          have h9 := bI_n0.mp c34
          rw [Bool.and_eq_true] at h9
          exact h9.2
        have hR : rnP (V.1 313) f l 80 nf T = (-1, muP 0 1 (nxP f l T)) := by
          unfold rnP
          rw [if_pos c4, if_neg (by unfold nmOK; rw [h34, Bool.not_true, Bool.and_false]; decide)]
        exact wp_reti k211_54 rfl (by rw [hR]) (by rw [hR]; rfl)
      · refine wp_iconst 1 k211_37 (by decide) ?_
        refine wp_goto k211_38 ?_
        refine wp_iconst 1 k211_42 (by decide) ?_
        refine wp_cvn (st2 := []) k211_43 (e_must hM) (by decide) rfl rfl rfl rfl (by decide) hM.o (by decide) ?_
        refine wp_aload_n k211_46 rfl rfl ?_
        refine wp_getI k211_47 (by decide) hM.o rfl ((muP 1 1 (nxP f l T)).2.2.2.1) rfl ?_
        refine wp_if_eq_T k211_50 (by show muE 1 T.2.2.2.1 1 = 0; rw [muE_1]; exact c4) ?_
        refine wp_aload_n k211_55 rfl rfl ?_
        refine wp_aload_n k211_56 rfl rfl ?_
        refine wp_getI k211_57 (by decide) hM.o rfl (Int32.ofNat ((muP 1 1 (nxP f l T)).2.1)) rfl ?_
        refine wp_aload_n k211_60 rfl rfl ?_
        refine wp_getI k211_61 (by decide) hM.o rfl (Int32.ofNat ((muP 1 1 (nxP f l T)).2.2.1)) rfl ?_
        refine wp_iadd k211_64 ?_
        refine wp_cast (i_add _ _) ?_
        refine wp_ps11 k211_65 hM.o (((muP 1 1 (nxP f l T)).2.1) + ((muP 1 1 (nxP f l T)).2.2.1)) rfl ?_
        refine wp_iload_n k211_68 rfl rfl ?_
        refine wp_if_eq_T k211_69 (by decide) ?_
        refine wp_aload_n k211_79 rfl rfl ?_
        refine wp_cv (st2 := []) k211_80 (e_factsP hM hnf) (by decide) rfl rfl rfl rfl (by decide) hM.o (by decide) ?_
        refine wp_istore_n (L1 := [_, _, _, _, _]) k211_83 rfl rfl ?_
        refine wp_iconst 0 k211_84 (by decide) ?_
        refine wp_istore (L1 := [_, _, _, _, _]) k211_85 rfl rfl ?_
        have hw6 : 1 ≤ wn f l T.1 ∧ wn f l T.1 ≤ 6 := by
          have h9 : decide (1 ≤ wn f l T.1 ∧ wn f l T.1 ≤ 6) = true := by
            rw [← w6 hw]
            exact bI_n0.mp c27
          exact of_decide_eq_true h9
        have how : owW f l T.1 = false := by
          have h9 := bI_0.mp c34
          simpa [show T.2.2.2.1 = 0 from c4] using h9
        have hR : rnP (V.1 313) f l 80 nf T = (fnF (fun k => nmB (V.1 313) f l (sk f l T.1) (wn f l T.1) (80 + 7 * k)) nf 0, goP (muP 1 1 (nxP f l T))) := by
          unfold rnP
          rw [if_pos c4, if_pos (by unfold nmOK; rw [decide_eq_true hw6, how]; rfl)]
        refine (l_readsNameF hM hT ha hw6.2 hnf h5 nf 0 (by omega)).imp fun v g q => ?_
        rw [hR]
        exact q
  · refine wp_iconst (-1) k211_7 (by decide) ?_
    exact wp_reti k211_8 rfl (by rw [show rnP (V.1 313) f l 80 nf T = (-1, T) from if_neg c4]) (by rw [show rnP (V.1 313) f l 80 nf T = (-1, T) from if_neg c4])
end M7
