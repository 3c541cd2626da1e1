section M16
/-! ===== the reference: the persons' lines ===== -/
theorem flF_lo {f : Nat → Int32} {l k : Nat} (hk : k < 80) (k0 : k ≠ 0) (k2 : k ≠ 2) : ∀ (g n : Nat) (V : hV) (T : hP), (flF f l g n V T).1.1 313 k = V.1 313 k
  | 0, _, _, _ => rfl
  | g + 1, n, V, T => by
    have h1 : ∀ X : hP, (flV f l V X n).1 313 k = V.1 313 k := fun X => by
      unfold flV
      rw [up_ne _ _ (Or.inr k0), lay_lo (by omega)]
    rw [flF.eq_2]
    split
    · split
      · rw [flF_lo hk k0 k2 g, h1]
      · show (up _ 313 2 _).1 313 k = _
        rw [up_ne _ _ (Or.inr k2), h1]
    · rfl
def TW (l : Nat) (T : hP) : Prop := er T = 0 → T.2.1 + T.2.2.1 ≤ l
theorem to_goW {l : Nat} {T : hP} (h : TW l T) (h0 : er T = 0) : TO l (goP T) := ⟨Nat.le_succ_of_le (h h0), fun _ => h h0⟩
theorem tw_nx {f : Nat → Int32} {l : Nat} {T : hP} (h : TO l T) : TW l (nxP f l T) := fun q => by
  have h2 := h.2 q
  have hs := sk_le f l T.1
  have hw := wn_le f l T.1
  show sk f l T.1 + wn f l T.1 ≤ l
  omega
theorem tw_mu {l : Nat} {x c : Int32} {T : hP} (hc : c ≠ 0) (h : TW l T) : TW l (muP x c T) := fun q => h (mu_er hc q)
def pnY (G f : Nat → Int32) (l m : Nat) (T : hP) : hP := muP (if (rnP G f l 115 m (goP T)).1 = -1 then 1 else 0) 2 (rnP G f l 115 m (goP T)).2
def pnL (f : Nat → Int32) (l : Nat) (V : hV) (Y : hP) (m : Nat) : hV := layV V f l Y.2.1 Y.2.2.1 (115 + 7 * m)
def pnK (f : Nat → Int32) (l nf : Nat) (V : hV) (Y : hP) (m : Nat) : Int32 × hP := rfF ((pnL f l V Y m).1 313) f l nf (l + 3) 0 Y
def pnF (f : Nat → Int32) (l nf m : Nat) (V : hV) (T : hP) : hV × hP := if er (muP (if m < 5 then 1 else 0) 3 T) = 0 then (if er (pnY (V.1 313) f l m (muP (if m < 5 then 1 else 0) 3 T)) = 0 then (up (up (pnL f l V (pnY (V.1 313) f l m (muP (if m < 5 then 1 else 0) 3 T)) m) 313 (150 + m) (pnK f l nf V (pnY (V.1 313) f l m (muP (if m < 5 then 1 else 0) 3 T)) m).1) 313 1 (Int32.ofNat (m + 1)), (pnK f l nf V (pnY (V.1 313) f l m (muP (if m < 5 then 1 else 0) 3 T)) m).2) else (V, pnY (V.1 313) f l m (muP (if m < 5 then 1 else 0) 3 T))) else (V, muP (if m < 5 then 1 else 0) 3 T)
theorem e_readsFacts {S : ww_S} {sh : List mm_C} {V : hV} {T : hP} (hM : MS sh) {f : Nat → Int32} {l : Nat} (hT : TX V f l) {G : Nat → Int32} (hg : V.1 313 = G) {nf : Nat} (hnf : G 0 = Int32.ofNat nf) (h5 : nf ≤ 5) (hO : TO l T) : EV S 11 231 [.ref 312] (hH sh (pp V T)) (.inl (some (.int (rfF G f l nf (l + 3) 0 T).1))) (hH sh (pp V (rfF G f l nf (l + 3) 0 T).2)) ∧ TO l (rfF G f l nf (l + 3) 0 T).2 := by
  have h1 := l_readsFacts (S := S) hM hT hg hnf h5 (l + 3) 0
  refine ⟨ev_qe P231 rfl ?_, (h1 none T hO (by split <;> omega)).2⟩
  refine wp_iconst 0 k231_0 (by decide) ?_
  refine wp_istore_n (L1 := [_, _, _]) k231_1 rfl rfl ?_
  exact (h1 _ T hO (by split <;> omega)).1
theorem e_personLine {S : ww_S} {sh : List mm_C} {V : hV} {T : hP} (hM : MS sh) {f : Nat → Int32} {l : Nat} (hT : TX V f l) {nf : Nat} (hnf : V.1 313 0 = Int32.ofNat nf) (h5 : nf ≤ 5) {m : Nat} (hnp : V.1 313 1 = Int32.ofNat m) (h5m : m ≤ 5) (hO : TO l T) (hW : TW l T) : EV S 13 232 [.ref 312] (hH sh (pp V T)) (.inl none) (hH sh (pp (pnF f l nf m V T).1 (pnF f l nf m V T).2)) ∧ TO l (pnF f l nf m V T).2 ∧ (∃ m' : Nat, (pnF f l nf m V T).1.1 313 1 = Int32.ofNat m' ∧ m' ≤ 5) ∧ (∀ a k, a ≠ 313 → (pnF f l nf m V T).1.1 a k = V.1 a k) ∧ (∀ k, k < 115 → k ≠ 1 → (pnF f l nf m V T).1.1 313 k = V.1 313 k) := by
  obtain ⟨X, hX⟩ : ∃ X, muP (if m < 5 then 1 else 0) 3 T = X := ⟨_, rfl⟩
  have hO1 : TO l X := by rw [← hX]; exact to_mu (by decide) hO
  have hW1 : TW l X := by rw [← hX]; exact tw_mu (by decide) hW
  have hXT : er X = 0 → er T = 0 := by rw [← hX]; exact mu_er (by decide)
  unfold pnF
  rw [hX]
  have go : ∀ {Q}, WP S 12 mm_m232 18 [some (.ref 312)] [] (hH sh (pp V X)) Q → WP S 12 mm_m232 0 [some (.ref 312)] [] (hH sh (pp V T)) Q := by
    intro Q E18
    rw [← hX] at E18
    by_cases c2 : m < 5
    · rw [if_pos c2] at E18
      refine wp_aload_n k232_0 rfl rfl ?_
      refine wp_aload_n k232_1 rfl rfl ?_
      refine wp_cv (st2 := [_]) k232_2 (e_personsP hM hnp) (by decide) rfl rfl rfl rfl (by decide) hM.o (by decide) ?_
      refine wp_iconst 5 k232_5 (by decide) ?_
      refine wp_if_icmp_ge_F k232_6 (i_lt c2 (by decide)) ?_
      refine wp_iconst 1 k232_9 (by decide) ?_
      refine wp_goto k232_10 ?_
      refine wp_iconst 3 k232_14 (by decide) ?_
      refine wp_cvn (st2 := []) k232_15 (e_must hM) (by decide) rfl rfl rfl rfl (by decide) hM.o (by decide) ?_
      exact E18
    · rw [if_neg c2] at E18
      refine wp_aload_n k232_0 rfl rfl ?_
      refine wp_aload_n k232_1 rfl rfl ?_
      refine wp_cv (st2 := [_]) k232_2 (e_personsP hM hnp) (by decide) rfl rfl rfl rfl (by decide) hM.o (by decide) ?_
      refine wp_iconst 5 k232_5 (by decide) ?_
      refine wp_if_icmp_ge_T k232_6 (i_nlt (Nat.not_lt.mp c2) (by omega)) ?_
      refine wp_iconst 0 k232_13 (by decide) ?_
      refine wp_iconst 3 k232_14 (by decide) ?_
      refine wp_cvn (st2 := []) k232_15 (e_must hM) (by decide) rfl rfl rfl rfl (by decide) hM.o (by decide) ?_
      exact E18
  by_cases h0 : er X = 0
  · rw [if_pos h0]
    have c2 : m < 5 := by
      refine Nat.lt_of_not_le fun z => ?_
      rw [← hX, if_neg (Nat.not_lt.mpr z)] at h0
      have h1 : er T = 0 := mu_er (by decide) h0
      rw [er_mu0 h1] at h0
      exact absurd h0 (by decide)
    have hO2 := to_goW hW1 h0
    obtain ⟨r1, hr1⟩ : ∃ r1, rnP (V.1 313) f l 115 m (goP X) = r1 := ⟨_, rfl⟩
    have EN := e_nameP (S := S) (T := goP X) hM hT (to_600 hO2 hT.2.1) (G := V.1 313) rfl hnp h5m
    have hO3 := to_rn (G := V.1 313) (f := f) (base := 115) (many := m) hO2
    have hw := fun h => rn_w (G := V.1 313) (f := f) (base := 115) (many := m) hO2 hT.2.1 h
    rw [hr1] at EN hO3 hw
    obtain ⟨Y, hY⟩ : ∃ Y, muP (if r1.1 = -1 then 1 else 0) 2 r1.2 = Y := ⟨_, rfl⟩
    have hYY : pnY (V.1 313) f l m X = Y := by
      unfold pnY
      rw [hr1, hY]
    rw [hYY]
    have hO4 : TO l Y := by rw [← hY]; exact to_mu (by decide) hO3
    have hY0 : er Y = 0 → er r1.2 = 0 := by rw [← hY]; exact mu_er (by decide)
    have hYb : Y.2.1 = r1.2.2.1 := by rw [← hY]; rfl
    have hYw : Y.2.2.1 = r1.2.2.2.1 := by rw [← hY]; rfl
    have go2 : ∀ {Q}, WP S 12 mm_m232 58 [some (.ref 312)] [] (hH sh (pp V Y)) Q → WP S 12 mm_m232 18 [some (.ref 312)] [] (hH sh (pp V X)) Q := by
      intro Q E58
      rw [← hY] at E58
      by_cases c1 : r1.1 = -1
      · rw [if_pos c1] at E58
        refine wp_aload_n k232_18 rfl rfl ?_
        refine wp_getI k232_19 (by decide) hM.o rfl (X.2.2.2.1) rfl ?_
        refine wp_if_eq_T k232_22 h0 ?_
        refine wp_aload_n k232_26 rfl rfl ?_
        refine wp_aload_n k232_27 rfl rfl ?_
        refine wp_getI k232_28 (by decide) hM.o rfl (Int32.ofNat (X.2.1)) rfl ?_
        refine wp_aload_n k232_31 rfl rfl ?_
        refine wp_getI k232_32 (by decide) hM.o rfl (Int32.ofNat (X.2.2.1)) rfl ?_
        refine wp_iadd k232_35 ?_
        refine wp_cast (i_add _ _) ?_
        refine wp_ps11 k232_36 hM.o (X.2.1 + X.2.2.1) rfl ?_
        refine wp_aload_n k232_39 rfl rfl ?_
        refine wp_aload_n k232_40 rfl rfl ?_
        refine wp_iconst 1 k232_41 (by decide) ?_
        refine wp_cv (st2 := [_]) k232_42 EN (by decide) rfl rfl rfl rfl (by decide) hM.o (by decide) ?_
        refine wp_iconst (-1) k232_45 (by decide) ?_
        refine wp_if_icmp_ne_F k232_46 c1 ?_
        refine wp_iconst 1 k232_49 (by decide) ?_
        refine wp_goto k232_50 ?_
        refine wp_iconst 2 k232_54 (by decide) ?_
        refine wp_cvn (st2 := []) k232_55 (e_must hM) (by decide) rfl rfl rfl rfl (by decide) hM.o (by decide) ?_
        exact E58
      · rw [if_neg c1] at E58
        refine wp_aload_n k232_18 rfl rfl ?_
        refine wp_getI k232_19 (by decide) hM.o rfl (X.2.2.2.1) rfl ?_
        refine wp_if_eq_T k232_22 h0 ?_
        refine wp_aload_n k232_26 rfl rfl ?_
        refine wp_aload_n k232_27 rfl rfl ?_
        refine wp_getI k232_28 (by decide) hM.o rfl (Int32.ofNat (X.2.1)) rfl ?_
        refine wp_aload_n k232_31 rfl rfl ?_
        refine wp_getI k232_32 (by decide) hM.o rfl (Int32.ofNat (X.2.2.1)) rfl ?_
        refine wp_iadd k232_35 ?_
        refine wp_cast (i_add _ _) ?_
        refine wp_ps11 k232_36 hM.o (X.2.1 + X.2.2.1) rfl ?_
        refine wp_aload_n k232_39 rfl rfl ?_
        refine wp_aload_n k232_40 rfl rfl ?_
        refine wp_iconst 1 k232_41 (by decide) ?_
        refine wp_cv (st2 := [_]) k232_42 EN (by decide) rfl rfl rfl rfl (by decide) hM.o (by decide) ?_
        refine wp_iconst (-1) k232_45 (by decide) ?_
        refine wp_if_icmp_ne_T k232_46 c1 ?_
        refine wp_iconst 0 k232_53 (by decide) ?_
        refine wp_iconst 2 k232_54 (by decide) ?_
        refine wp_cvn (st2 := []) k232_55 (e_must hM) (by decide) rfl rfl rfl rfl (by decide) hM.o (by decide) ?_
        exact E58
    by_cases h1 : er Y = 0
    · rw [if_pos h1]
      obtain ⟨w1, w2⟩ := hw (hY0 h1)
      rw [← hYb] at w1
      rw [← hYw] at w2
      have EL := e_laysName (S := S) (V := V) (T := Y) hM hT (t := 115 + 7 * m) w1 w2 (by omega)
      have hn1 : (pnL f l V Y m).1 313 1 = Int32.ofNat m := by unfold pnL; rw [lay_lo (by omega)]; exact hnp
      have hn0 : (pnL f l V Y m).1 313 0 = Int32.ofNat nf := by unfold pnL; rw [lay_lo (by omega)]; exact hnf
      have ER := e_readsFacts (S := S) (V := pnL f l V Y m) (T := Y) hM hT rfl hn0 h5 hO4
      obtain ⟨K, hK⟩ : ∃ K, pnK f l nf V Y m = K := ⟨_, rfl⟩
      rw [show rfF ((pnL f l V Y m).1 313) f l nf (l + 3) 0 Y = K from hK] at ER
      rw [hK]
      refine ⟨?_, ER.2, ⟨m + 1, up_eq _ _ _ _, by omega⟩, fun a k h => ?_, fun k hk k1 => ?_⟩
      · refine ev_qe P232 rfl (go (go2 ?_))
        refine wp_aload_n k232_58 rfl rfl ?_
        refine wp_getI k232_59 (by decide) hM.o rfl (Y.2.2.2.1) rfl ?_
        refine wp_if_eq_T k232_62 h1 ?_
        refine wp_aload_n k232_66 rfl rfl ?_
        refine wp_bipush 115 k232_67 (by decide) ?_
        refine wp_bipush 7 k232_69 (by decide) ?_
        refine wp_aload_n k232_71 rfl rfl ?_
        refine wp_cv (st2 := [_, _, _]) k232_72 (e_personsP hM hnp) (by decide) rfl rfl rfl rfl (by decide) hM.o (by decide) ?_
        refine wp_imul k232_75 ?_
        refine wp_cast (show (7 : Int32) * Int32.ofNat (m) = Int32.ofNat (7 * m) from (Int32.ofNat_mul 7 _).symm) ?_
        refine wp_iadd k232_76 ?_
        refine wp_cast (show (115 : Int32) + Int32.ofNat (7 * m) = Int32.ofNat (115 + (7 * m)) from (Int32.ofNat_add 115 _).symm) ?_
        refine wp_cvn (st2 := []) k232_77 EL (by decide) rfl rfl rfl rfl (by decide) hM.o (by decide) ?_
        refine wp_aload_n k232_80 rfl rfl ?_
        refine wp_getR k232_81 (by decide) hM.o rfl ?_
        refine wp_sipush 150 k232_84 (by decide) ?_
        refine wp_aload_n k232_87 rfl rfl ?_
        refine wp_cv (st2 := [_, _]) k232_88 (e_personsP (V := pnL f l V Y m) hM hn1) (by decide) rfl rfl rfl rfl (by decide) hM.o (by decide) ?_
        refine wp_iadd k232_91 ?_
        refine wp_cast (show (150 : Int32) + Int32.ofNat (m) = Int32.ofNat (150 + m) from (Int32.ofNat_add 150 _).symm) ?_
        refine wp_aload_n k232_92 rfl rfl ?_
        refine wp_cv (st2 := [_, _]) k232_93 ER.1 (by decide) rfl rfl rfl rfl (by decide) hM.o (by decide) ?_
        refine wp_iastoreP k232_96 (by decide) (hM.a313) (i_inO (by omega) (by decide)) (150 + m) (i_un (by omega)) (by decide) ?_
        refine wp_aload_n k232_97 rfl rfl ?_
        refine wp_getR k232_98 (by decide) hM.o rfl ?_
        refine wp_iconst 1 k232_101 (by decide) ?_
        refine wp_dup2 k232_102 rfl rfl ?_
        refine wp_ialoadP k232_103 (by decide) (hM.a313) (by decide) 1 (by decide) (by decide) (Int32.ofNat m) (by rw [up_ne _ _ (Or.inr (by omega))]; exact hn1) ?_
        refine wp_iconst 1 k232_104 (by decide) ?_
        refine wp_iadd k232_105 ?_
        refine wp_cast (show Int32.ofNat (m) + (1 : Int32) = Int32.ofNat (m + 1) from (Int32.ofNat_add _ 1).symm) ?_
        refine wp_iastoreP k232_106 (by decide) (hM.a313) (by decide) 1 (by decide) (by decide) ?_
        exact wp_retn k232_107 rfl rfl
      · rw [up_ne _ _ (Or.inl h), up_ne _ _ (Or.inl h)]
        exact lay_ne h
      · rw [up_ne _ _ (Or.inr k1), up_ne _ _ (Or.inr (by omega))]
        exact lay_lo (by omega)
    · rw [if_neg h1]
      refine ⟨?_, hO4, ⟨m, hnp, h5m⟩, fun a k h => rfl, fun k hk k1 => rfl⟩
      refine ev_qe P232 rfl (go (go2 ?_))
      refine wp_aload_n k232_58 rfl rfl ?_
      refine wp_getI k232_59 (by decide) hM.o rfl (Y.2.2.2.1) rfl ?_
      refine wp_if_eq_F k232_62 h1 ?_
      exact wp_retn k232_65 rfl rfl
  · rw [if_neg h0]
    refine ⟨?_, hO1, ⟨m, hnp, h5m⟩, fun a k h => rfl, fun k hk k1 => rfl⟩
    refine ev_qe P232 rfl (go ?_)
    refine wp_aload_n k232_18 rfl rfl ?_
    refine wp_getI k232_19 (by decide) hM.o rfl (X.2.2.2.1) rfl ?_
    refine wp_if_eq_F k232_22 h0 ?_
    exact wp_retn k232_25 rfl rfl
/-! ===== the reference: the real world's line ===== -/
def beP (b : Nat) (T : hP) : hP := (T.1, b, T.2.2)
def rlK (f : Nat → Int32) (l nf : Nat) (V : hV) (T : hP) : Int32 × hP := rfF (V.1 313) f l nf (l + 3) 0 (goP T)
def rlF (f : Nat → Int32) (l nf b : Nat) (V : hV) (T : hP) : hV × hP := if er (rlK f l nf V T).2 = 0 then (up V 313 4 (rlK f l nf V T).1, muP (bI (hasB (V.1 313 2) (rlK f l nf V T).1)) 4 (beP b (rlK f l nf V T).2)) else (V, (rlK f l nf V T).2)
theorem e_realLine {S : ww_S} {sh : List mm_C} {V : hV} {T : hP} (hM : MS sh) {f : Nat → Int32} {l : Nat} (hT : TX V f l) {nf : Nat} (hnf : V.1 313 0 = Int32.ofNat nf) (h5 : nf ≤ 5) {b : Nat} (hO : TO l (goP T)) : EV S 13 233 [.ref 312, .int (Int32.ofNat b)] (hH sh (pp V T)) (.inl none) (hH sh (pp (rlF f l nf b V T).1 (rlF f l nf b V T).2)) ∧ TO l (rlF f l nf b V T).2 := by
  have ER := e_readsFacts (S := S) (V := V) (T := goP T) hM hT rfl hnf h5 hO
  unfold rlF
  obtain ⟨K, hK⟩ : ∃ K, rlK f l nf V T = K := ⟨_, rfl⟩
  rw [show rfF (V.1 313) f l nf (l + 3) 0 (goP T) = K from hK] at ER
  rw [hK]
  by_cases h0 : er K.2 = 0
  · rw [if_pos h0]
    refine ⟨?_, to_mu (by decide) ER.2⟩
    refine ev_qe P233 rfl ?_
    refine wp_aload_n k233_0 rfl rfl ?_
    refine wp_aload_n k233_1 rfl rfl ?_
    refine wp_getI k233_2 (by decide) hM.o rfl (Int32.ofNat (T.2.1)) rfl ?_
    refine wp_aload_n k233_5 rfl rfl ?_
    refine wp_getI k233_6 (by decide) hM.o rfl (Int32.ofNat (T.2.2.1)) rfl ?_
    refine wp_iadd k233_9 ?_
    refine wp_cast (i_add _ _) ?_
    refine wp_ps11 k233_10 hM.o (T.2.1 + T.2.2.1) rfl ?_
    refine wp_aload_n k233_13 rfl rfl ?_
    refine wp_cv (st2 := []) k233_14 ER.1 (by decide) rfl rfl rfl rfl (by decide) hM.o (by decide) ?_
    refine wp_istore_n (L1 := [_, _, _]) k233_17 rfl rfl ?_
    refine wp_aload_n k233_18 rfl rfl ?_
    refine wp_getI k233_19 (by decide) hM.o rfl (K.2.2.2.2.1) rfl ?_
    refine wp_if_eq_T k233_22 h0 ?_
    refine wp_aload_n k233_26 rfl rfl ?_
    refine wp_iload_n k233_27 rfl rfl ?_
    refine wp_ps12 k233_28 hM.o (b) rfl ?_
    refine wp_aload_n k233_31 rfl rfl ?_
    refine wp_aload_n k233_32 rfl rfl ?_
    refine wp_iload_n k233_33 rfl rfl ?_
    refine wp_cv (st2 := [_]) k233_34 (e_isLeft (V := pp V (beP b K.2)) hM) (by decide) rfl rfl rfl rfl (by decide) hM.o (by decide) ?_
    refine wp_iconst 4 k233_37 (by decide) ?_
    refine wp_cvn (st2 := []) k233_38 (e_must hM) (by decide) rfl rfl rfl rfl (by decide) hM.o (by decide) ?_
    refine wp_aload_n k233_41 rfl rfl ?_
    refine wp_getR k233_42 (by decide) hM.o rfl ?_
    refine wp_iconst 4 k233_45 (by decide) ?_
    refine wp_iload_n k233_46 rfl rfl ?_
    refine wp_iastoreP k233_47 (by decide) (hM.a313) (by decide) 4 (by decide) (by decide) ?_
    exact wp_retn k233_48 rfl rfl
  · rw [if_neg h0]
    refine ⟨?_, ER.2⟩
    refine ev_qe P233 rfl ?_
    refine wp_aload_n k233_0 rfl rfl ?_
    refine wp_aload_n k233_1 rfl rfl ?_
    refine wp_getI k233_2 (by decide) hM.o rfl (Int32.ofNat (T.2.1)) rfl ?_
    refine wp_aload_n k233_5 rfl rfl ?_
    refine wp_getI k233_6 (by decide) hM.o rfl (Int32.ofNat (T.2.2.1)) rfl ?_
    refine wp_iadd k233_9 ?_
    refine wp_cast (i_add _ _) ?_
    refine wp_ps11 k233_10 hM.o (T.2.1 + T.2.2.1) rfl ?_
    refine wp_aload_n k233_13 rfl rfl ?_
    refine wp_cv (st2 := []) k233_14 ER.1 (by decide) rfl rfl rfl rfl (by decide) hM.o (by decide) ?_
    refine wp_istore_n (L1 := [_, _, _]) k233_17 rfl rfl ?_
    refine wp_aload_n k233_18 rfl rfl ?_
    refine wp_getI k233_19 (by decide) hM.o rfl (K.2.2.2.2.1) rfl ?_
    refine wp_if_eq_F k233_22 h0 ?_
    exact wp_retn k233_25 rfl rfl
/-! ===== the reference: is there another line of this kind ===== -/
def nlP (f : Nat → Int32) (l : Nat) (T : hP) : hP := if er (sgP f l 59 T) = 0 then nxP f l (sgP f l 59 T) else sgP f l 59 T
def nlB (f : Nat → Int32) (l : Nat) (T : hP) (n N : Nat) : Bool := decide (er (sgP f l 59 T) = 0) && seW f l (sgP f l 59 T).1 n N
theorem e_nextLine {S : ww_S} {sh : List mm_C} {V : hV} {T : hP} (hM : MS sh) {f : Nat → Int32} {l : Nat} (hT : TX V f l) (hO : TO l T) {k n N : Nat} (hx : XS k n N) : EV S 7 235 [.ref 312, .ref k] (hH sh (pp V T)) (.inl (some (.int (bI (nlB f l T n N))))) (hH sh (pp V (nlP f l T))) := by
  have hO1 := to_sg (f := f) (c := 59) (by decide) hO
  have EG := e_sign (S := S) (T := T) hM hT (by have := to_600 hO hT.2.1; omega) (c := 59)
  have ES := e_sees (S := S) (V := V) (a := (sgP f l 59 T).1) (b := (sgP f l 59 T).2.1) (w := (sgP f l 59 T).2.2.1) (e := er (sgP f l 59 T)) (ea := (sgP f l 59 T).2.2.2.2) hM hT (by have := to_600 hO1 hT.2.1; omega) hx
  by_cases h0 : er (sgP f l 59 T) = 0
  · rw [show nlP f l T = nxP f l (sgP f l 59 T) from if_pos h0]
    have hb : nlB f l T n N = (decide (er (sgP f l 59 T) = 0) && seW f l (sgP f l 59 T).1 n N) := rfl
    refine ev_qe P235 rfl ?_
    by_cases h1 : (decide (er (sgP f l 59 T) = 0) && seW f l (sgP f l 59 T).1 n N) = true
    · rw [hb, h1]
      refine wp_aload_n k235_0 rfl rfl ?_
      refine wp_bipush 59 k235_1 (by decide) ?_
      refine wp_cvn (st2 := []) k235_3 EG (by decide) rfl rfl rfl rfl (by decide) hM.o (by decide) ?_
      refine wp_aload_n k235_6 rfl rfl ?_
      refine wp_getI k235_7 (by decide) hM.o rfl ((sgP f l 59 T).2.2.2.1) rfl ?_
      refine wp_if_ne_F k235_10 h0 ?_
      refine wp_aload_n k235_13 rfl rfl ?_
      refine wp_aload_n k235_14 rfl rfl ?_
      refine wp_cv (st2 := []) k235_15 ES (by decide) rfl rfl rfl rfl (by decide) hM.o (by decide) ?_
      refine wp_if_eq_F k235_18 (bI_n0.mpr h1) ?_
      refine wp_iconst 1 k235_21 (by decide) ?_
      refine wp_goto k235_22 ?_
      exact wp_retz k235_26 rfl rfl rfl
    · rw [hb, Bool.eq_false_iff.mpr h1]
      refine wp_aload_n k235_0 rfl rfl ?_
      refine wp_bipush 59 k235_1 (by decide) ?_
      refine wp_cvn (st2 := []) k235_3 EG (by decide) rfl rfl rfl rfl (by decide) hM.o (by decide) ?_
      refine wp_aload_n k235_6 rfl rfl ?_
      refine wp_getI k235_7 (by decide) hM.o rfl ((sgP f l 59 T).2.2.2.1) rfl ?_
      refine wp_if_ne_F k235_10 h0 ?_
      refine wp_aload_n k235_13 rfl rfl ?_
      refine wp_aload_n k235_14 rfl rfl ?_
      refine wp_cv (st2 := []) k235_15 ES (by decide) rfl rfl rfl rfl (by decide) hM.o (by decide) ?_
      refine wp_if_eq_T k235_18 (bI_0.mpr (Bool.eq_false_iff.mpr h1)) ?_
      refine wp_iconst 0 k235_25 (by decide) ?_
      exact wp_retz k235_26 rfl rfl rfl
  · rw [show nlP f l T = sgP f l 59 T from if_neg h0, show nlB f l T n N = false from by unfold nlB; rw [decide_eq_false h0, Bool.false_and]]
    refine ev_qe P235 rfl ?_
    refine wp_aload_n k235_0 rfl rfl ?_
    refine wp_bipush 59 k235_1 (by decide) ?_
    refine wp_cvn (st2 := []) k235_3 EG (by decide) rfl rfl rfl rfl (by decide) hM.o (by decide) ?_
    refine wp_aload_n k235_6 rfl rfl ?_
    refine wp_getI k235_7 (by decide) hM.o rfl ((sgP f l 59 T).2.2.2.1) rfl ?_
    refine wp_if_ne_T k235_10 h0 ?_
    refine wp_iconst 0 k235_25 (by decide) ?_
    exact wp_retz k235_26 rfl rfl rfl
end M16
