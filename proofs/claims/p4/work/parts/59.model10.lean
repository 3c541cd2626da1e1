section M10
/-! ===== the reference: the methods that read a formula do what rd does ===== -/
def OKq (l bs : Nat) (q : hQ) : Prop := q.2.2.2.1 ≤ l + 1 ∧ (er q.2.2.2 = 0 → q.2.2.2.1 ≤ l) ∧ q.2.1 ≤ 61 ∧ (er q.2.2.2 = 0 → q.2.1 ≤ 60) ∧ q.2.2.1 ≤ 8 ∧ ∃ m : Nat, q.1 bs = Int32.ofNat m ∧ m ≤ 60
def Rl (l bs : Nat) (q q' : hQ) : Prop := q.2.2.2.1 ≤ q'.2.2.2.1 ∧ q.2.1 ≤ q'.2.1 ∧ q'.2.2.1 = q.2.2.1 ∧ OKq l bs q'
def dI (s o : Nat) : Nat := 12 + 2 * (61 - s) + 5 * (8 - o)
def RC (V : hV) (G f : Nat → Int32) (l bs : Nat) (pl : Bool) (np nf : Nat) : Prop := TX V f l ∧ V.1 313 = G ∧ G 1 = Int32.ofNat np ∧ np ≤ 5 ∧ G 0 = Int32.ofNat nf ∧ nf ≤ 5 ∧ V.1 312 19 = Int32.ofNat bs ∧ bs + 241 ≤ 5061 ∧ V.1 312 22 = bI pl
abbrev fq (V : hV) (q : hQ) : hV := pp (fmV V q.1 q.2.1 q.2.2.1) q.2.2.2
/-- method j goes from q to r -/
def EVq (S : ww_S) (sh : List mm_C) (V : hV) (D j : Nat) (q : hQ) (r : Int32 × hQ) : Prop := EV S D j [.ref 312] (hH sh (fq V q)) (.inl (some (.int r.1))) (hH sh (fq V r.2))
theorem er_mu1 {c : Int32} {T : hP} : er (muP 1 c T) = er T := muE_1 (e := er T) (c := c)
theorem tx_fm {V : hV} {f : Nat → Int32} {l : Nat} {F : Nat → Int32} {s o : Nat} (h : TX V f l) : TX (fmV V F s o) f l := h
theorem fm_g {V : hV} {G F : Nat → Int32} {s o : Nat} (h : V.1 313 = G) : (fmV V F s o).1 313 = G := h
theorem er_mu0 {c : Int32} {T : hP} (h : er T = 0) : er (muP 0 c T) = c := muE_0 h
theorem mdF_b {F : Nat → Int32} {b m : Nat} {e kd a c : Int32} (h : F b = Int32.ofNat m) (h6 : m ≤ 60) : ∃ m' : Nat, (mdF F b e kd a c).2 b = Int32.ofNat m' ∧ m' ≤ 60 := by
  unfold mdF
  have hu : mm_un (F b) = m := by rw [h]; exact i_un (by omega)
  split
  · rename_i h9
    rw [hu] at h9
    refine ⟨m + 1, ?_, by omega⟩
    show (if b = b then F b + 1 else _) = _
    rw [if_pos rfl, h, i_succ]
  · exact ⟨m, h, h6⟩
theorem co_er {s : Nat} {T : hP} (h : er (coP s T) = 0) : er T = 0 ∧ s + 1 ≤ 60 := by
  unfold coP at h
  by_cases hs : s + 1 ≤ 60
  · rw [if_pos hs, er_mu1] at h
    exact ⟨h, hs⟩
  · rw [if_neg hs] at h
    by_cases h0 : er T = 0
    · rw [er_mu0 h0] at h
      exact absurd h (by decide)
    · have : er (muP 0 3 T) = er T := by
        show muE 0 (er T) 3 = er T
        unfold muE wrE
        rw [if_pos rfl, if_neg h0]
      rw [this] at h
      exact absurd h h0
theorem sg_1 {f : Nat → Int32} {l : Nat} {c : Int32} {T : hP} : (er T = 0 → (sgP f l c T).1 = sk f l T.1 + 1) ∧ (er T ≠ 0 → sgP f l c T = T) := by
  constructor
  · intro h
    unfold sgP
    rw [if_pos h]
    rfl
  · intro h
    unfold sgP
    rw [if_neg h]
theorem sg_er {f : Nat → Int32} {l : Nat} {c : Int32} {T : hP} (hc : c ≠ -1) (h : er (sgP f l c T) = 0) : er T = 0 ∧ sk f l T.1 < l := by
  by_cases h0 : er T = 0
  · refine ⟨h0, ?_⟩
    unfold sgP at h
    rw [if_pos h0] at h
    by_cases hb : byt f l (sk f l T.1) = c
    · refine Nat.lt_of_not_le fun q => hc ?_
      rw [← hb, byt_ge q]
    · rw [if_neg hb] at h
      have h : er (muP 0 1 (nxP f l T)) = 0 := h
      rw [er_mu0 (show er (nxP f l T) = 0 from h0)] at h
      exact absurd h (by decide)
  · rw [sg_1.2 h0] at h
    exact absurd h h0
theorem in_ok {S : ww_S} {sh : List mm_C} {V : hV} {G f : Nat → Int32} {l bs : Nat} {pl : Bool} {np nf : Nat} (hM : MS sh) (hC : RC V G f l bs pl np nf) {R : hR} {q : hQ} (hq : OKq l bs q) (h0 : er q.2.2.2 = 0) (hlt : q.2.2.2.1 < l) (H : ∀ q' : hQ, OKq l bs q' → q.2.2.2.1 + 1 ≤ q'.2.2.2.1 → q'.2.1 = q.2.1 → q'.2.2.1 = q.2.2.1 + 1 → EVq S sh V (dI q'.2.1 q'.2.2.1 + 2) 227 q' (R 2 0 q') ∧ Rl l bs q' (R 2 0 q').2) : EVq S sh V (dI q.2.1 q.2.2.1 - 1) 223 q (inQ f l R q) ∧ Rl l bs q (inQ f l R q).2 := by
  obtain ⟨hT, hg, hnp, h5, hnf, h5f, hbs, hb, hpl⟩ := hC
  obtain ⟨q1, q2, q3, q4, q5, m, q6, q7⟩ := hq
  have hl6 := hT.2.1
  have hq60 := q4 h0
  by_cases ho : q.2.2.1 < 8
  · have hz : er (muP 1 1 q.2.2.2) = 0 := by rw [er_mu1]; exact h0
    obtain ⟨r1, hr1⟩ : ∃ r1, R 2 0 (q.1, q.2.1, q.2.2.1 + 1, upP (muP 1 1 q.2.2.2)) = r1 := ⟨_, rfl⟩
    have H1 := H (q.1, q.2.1, q.2.2.1 + 1, upP (muP 1 1 q.2.2.2)) ⟨show q.2.2.2.1 + 1 ≤ l + 1 by omega, fun _ => show q.2.2.2.1 + 1 ≤ l by omega, q3, fun _ => hq60, show q.2.2.1 + 1 ≤ 8 by omega, m, q6, q7⟩ (Nat.le_refl _) rfl rfl
    rw [hr1] at H1
    obtain ⟨E1, g1, g2, g3, g4, g5, g6, g7, g8, g9⟩ := H1
    have g3 : r1.2.2.2.1 = q.2.2.1 + 1 := g3
    have g1 : q.2.2.2.1 + 1 ≤ r1.2.2.2.2.1 := g1
    have hR : inQ f l R q = (r1.1, r1.2.1, r1.2.2.1, r1.2.2.2.1 - 1, sgP f l 41 r1.2.2.2.2) := by
      unfold inQ
      rw [if_pos ho, if_pos hz, hr1]
    rw [hR]
    refine ⟨?_, ?_⟩
    · refine (ev_qe (D := dI q.2.1 q.2.2.1 - 2) P223 rfl ?_).mono (by unfold dI; omega)
      refine wp_aload_n k223_0 rfl rfl ?_
      refine wp_aload_n k223_1 rfl rfl ?_
      refine wp_getIP k223_2 (by decide) hM.o rfl (by decide) (Int32.ofNat q.2.2.1) rfl ?_
      refine wp_bipush 8 k223_5 (by decide) ?_
      refine wp_if_icmp_ge_F k223_7 (i_lt (n := 8) ho (by decide)) ?_
      refine wp_iconst 1 k223_10 (by decide) ?_
      refine wp_goto k223_11 ?_
      refine wp_iconst 1 k223_15 (by decide) ?_
      refine wp_cvn (st2 := []) k223_16 (e_must hM) (by decide) rfl rfl rfl rfl (by decide) hM.o (by unfold dI; omega) ?_
      refine wp_aload_n k223_19 rfl rfl ?_
      refine wp_getI k223_20 (by decide) hM.o rfl ((muP 1 1 q.2.2.2).2.2.2.1) rfl ?_
      refine wp_if_eq_T k223_23 hz ?_
      refine wp_aload_n k223_28 rfl rfl ?_
      refine wp_dup k223_29 rfl ?_
      refine wp_getI k223_30 (by decide) hM.o rfl (Int32.ofNat ((muP 1 1 q.2.2.2).1)) rfl ?_
      refine wp_iconst 1 k223_33 (by decide) ?_
      refine wp_iadd k223_34 ?_
      refine wp_cast (show Int32.ofNat ((muP 1 1 q.2.2.2).1) + (1 : Int32) = Int32.ofNat (((muP 1 1 q.2.2.2).1) + 1) from (Int32.ofNat_add _ 1).symm) ?_
      refine wp_ps11 k223_35 hM.o (((muP 1 1 q.2.2.2).1) + 1) rfl ?_
      refine wp_aload_n k223_38 rfl rfl ?_
      refine wp_dup k223_39 rfl ?_
      refine wp_getIP k223_40 (by decide) hM.o rfl (by decide) (Int32.ofNat q.2.2.1) rfl ?_
      refine wp_iconst 1 k223_43 (by decide) ?_
      refine wp_iadd k223_44 ?_
      refine wp_cast (show Int32.ofNat (q.2.2.1) + (1 : Int32) = Int32.ofNat (q.2.2.1 + 1) from (Int32.ofNat_add _ 1).symm) ?_
      refine wp_putIP k223_45 (by decide) hM.o rfl rfl rfl (by decide) ?_
      rw [fm_o]
      refine wp_aload_n k223_48 rfl rfl ?_
      refine wp_cv (st2 := []) k223_49 E1 (by decide) rfl rfl rfl rfl (by decide) hM.o (by show dI q.2.1 (q.2.2.1 + 1) + 2 ≤ _; unfold dI; omega) ?_
      refine wp_istore_n (L1 := [_, _]) k223_52 rfl rfl ?_
      refine wp_aload_n k223_53 rfl rfl ?_
      refine wp_dup k223_54 rfl ?_
      refine wp_getIP k223_55 (by decide) hM.o rfl (by decide) (Int32.ofNat r1.2.2.2.1) rfl ?_
      refine wp_iconst 1 k223_58 (by decide) ?_
      refine wp_isub k223_59 ?_
      refine wp_cast (i_pred (by omega)) ?_
      refine wp_putIP k223_60 (by decide) hM.o rfl rfl rfl (by decide) ?_
      rw [fm_o]
      refine wp_aload_n k223_63 rfl rfl ?_
      refine wp_bipush 41 k223_64 (by decide) ?_
      refine wp_cvn (st2 := []) k223_66 (e_sign (T := r1.2.2.2.2) hM (tx_fm hT) (by omega)) (by decide) rfl rfl rfl rfl (by decide) hM.o (by unfold dI; omega) ?_
      refine wp_iload_n k223_69 rfl rfl ?_
      exact wp_reti k223_70 rfl rfl rfl
    · have hs1 := sk_le f l r1.2.2.2.2.1
      have hs2 := skF_ge f l l r1.2.2.2.2.1
      have hs2 : r1.2.2.2.2.1 ≤ sk f l r1.2.2.2.2.1 := hs2
      by_cases he : er r1.2.2.2.2 = 0
      · have e9 := (sg_1 (f := f) (l := l) (c := 41)).1 he
        have g10 := g5 he
        refine ⟨?_, g2, ?_, ?_, ?_, g6, ?_, ?_, g9⟩
        · show q.2.2.2.1 ≤ (sgP f l 41 r1.2.2.2.2).1
          rw [e9]; omega
        · show r1.2.2.2.1 - 1 = q.2.2.1
          omega
        · show (sgP f l 41 r1.2.2.2.2).1 ≤ l + 1
          rw [e9]; omega
        · intro h
          show (sgP f l 41 r1.2.2.2.2).1 ≤ l
          have := (sg_er (by decide) h).2
          rw [e9]; omega
        · intro _
          exact g7 he
        · show r1.2.2.2.1 - 1 ≤ 8
          omega
      · have e9 := (sg_1 (f := f) (l := l) (c := 41)).2 he
        refine ⟨?_, g2, ?_, ?_, ?_, g6, ?_, ?_, g9⟩
        · show q.2.2.2.1 ≤ (sgP f l 41 r1.2.2.2.2).1
          rw [e9]; omega
        · show r1.2.2.2.1 - 1 = q.2.2.1
          omega
        · show (sgP f l 41 r1.2.2.2.2).1 ≤ l + 1
          rw [e9]; exact g4
        · intro h
          have h : er (sgP f l 41 r1.2.2.2.2) = 0 := h
          rw [e9] at h
          exact absurd h he
        · intro h
          have h : er (sgP f l 41 r1.2.2.2.2) = 0 := h
          rw [e9] at h
          exact absurd h he
        · show r1.2.2.2.1 - 1 ≤ 8
          omega
  · have hz : ¬ er (muP 0 1 q.2.2.2) = 0 := by rw [er_mu0 h0]; decide
    have hR : inQ f l R q = (0, q.1, q.2.1, q.2.2.1, muP 0 1 q.2.2.2) := by
      unfold inQ
      rw [if_neg ho, if_neg hz]
    rw [hR]
    refine ⟨?_, ?_⟩
    · refine (ev_qe (D := dI q.2.1 q.2.2.1 - 2) P223 rfl ?_).mono (by unfold dI; omega)
      refine wp_aload_n k223_0 rfl rfl ?_
      refine wp_aload_n k223_1 rfl rfl ?_
      refine wp_getIP k223_2 (by decide) hM.o rfl (by decide) (Int32.ofNat q.2.2.1) rfl ?_
      refine wp_bipush 8 k223_5 (by decide) ?_
      refine wp_if_icmp_ge_T k223_7 (i_nlt (n := 8) (by omega) (by omega)) ?_
      refine wp_iconst 0 k223_14 (by decide) ?_
      refine wp_iconst 1 k223_15 (by decide) ?_
      refine wp_cvn (st2 := []) k223_16 (e_must hM) (by decide) rfl rfl rfl rfl (by decide) hM.o (by unfold dI; omega) ?_
      refine wp_aload_n k223_19 rfl rfl ?_
      refine wp_getI k223_20 (by decide) hM.o rfl ((muP 0 1 q.2.2.2).2.2.2.1) rfl ?_
      refine wp_if_eq_F k223_23 hz ?_
      refine wp_iconst 0 k223_26 (by decide) ?_
      exact wp_reti k223_27 rfl rfl rfl
    · exact ⟨Nat.le_refl _, Nat.le_refl _, rfl, q1, fun h => absurd h hz, q3, fun h => absurd h hz, q5, m, q6, q7⟩
theorem nt_ok {S : ww_S} {sh : List mm_C} {V : hV} {G f : Nat → Int32} {l bs : Nat} {pl : Bool} {np nf : Nat} (hM : MS sh) (hC : RC V G f l bs pl np nf) {R : hR} {q : hQ} (hq : OKq l bs q) (h0 : er q.2.2.2 = 0) (hw1 : q.2.2.2.1 + 1 ≤ q.2.2.2.2.1 + q.2.2.2.2.2.1) (hw2 : q.2.2.2.2.1 + q.2.2.2.2.2.1 ≤ l) (H : ∀ q' : hQ, OKq l bs q' → q.2.2.2.1 + 1 ≤ q'.2.2.2.1 → q'.2.1 = q.2.1 + 1 → q'.2.2.1 = q.2.2.1 → EVq S sh V (dI q'.2.1 q'.2.2.1) 225 q' (R 0 0 q') ∧ Rl l bs q' (R 0 0 q').2) : EVq S sh V (dI q.2.1 q.2.2.1 - 1) 222 q (ntQ bs R q) ∧ Rl l bs q (ntQ bs R q).2 := by
  obtain ⟨hT, hg, hnp, h5, hnf, h5f, hbs, hb, hpl⟩ := hC
  obtain ⟨q1, q2, q3, q4, q5, m, q6, q7⟩ := hq
  have hl6 := hT.2.1
  have hq60 := q4 h0
  by_cases hz : er (coP q.2.1 q.2.2.2) = 0
  · have hz2 := (co_er hz).2
    obtain ⟨r1, hr1⟩ : ∃ r1, R 0 0 (q.1, q.2.1 + 1, q.2.2.1, goP (coP q.2.1 q.2.2.2)) = r1 := ⟨_, rfl⟩
    have H1 := H (q.1, q.2.1 + 1, q.2.2.1, goP (coP q.2.1 q.2.2.2)) ⟨show q.2.2.2.2.1 + q.2.2.2.2.2.1 ≤ l + 1 by omega, fun _ => hw2, show q.2.1 + 1 ≤ 61 by omega, fun _ => show q.2.1 + 1 ≤ 60 by omega, q5, m, q6, q7⟩ hw1 rfl rfl
    rw [hr1] at H1
    obtain ⟨E1, g1, g2, g3, g4, g5, g8, g9, g10, m1, g6, g7⟩ := H1
    have g1 : q.2.2.2.2.1 + q.2.2.2.2.2.1 ≤ r1.2.2.2.2.1 := g1
    have g2 : q.2.1 + 1 ≤ r1.2.2.1 := g2
    have hR : ntQ bs R q = mkQ bs r1.2 1 r1.1 0 := by
      unfold ntQ
      rw [if_pos hz, hr1]
    rw [hR]
    refine ⟨?_, ?_⟩
    · refine (ev_qe (D := dI q.2.1 q.2.2.1 - 2) P222 rfl ?_).mono (by unfold dI; omega)
      refine wp_aload_n k222_0 rfl rfl ?_
      refine wp_cvn (st2 := []) k222_1 (e_counts (T := q.2.2.2) hM (by omega)) (by decide) rfl rfl rfl rfl (by decide) hM.o (by unfold dI; omega) ?_
      refine wp_aload_n k222_4 rfl rfl ?_
      refine wp_getI k222_5 (by decide) hM.o rfl ((coP q.2.1 q.2.2.2).2.2.2.1) rfl ?_
      refine wp_if_eq_T k222_8 hz ?_
      refine wp_aload_n k222_13 rfl rfl ?_
      refine wp_aload_n k222_14 rfl rfl ?_
      refine wp_getI k222_15 (by decide) hM.o rfl (Int32.ofNat ((coP q.2.1 q.2.2.2).2.1)) rfl ?_
      refine wp_aload_n k222_18 rfl rfl ?_
      refine wp_getI k222_19 (by decide) hM.o rfl (Int32.ofNat ((coP q.2.1 q.2.2.2).2.2.1)) rfl ?_
      refine wp_iadd k222_22 ?_
      refine wp_cast (i_add _ _) ?_
      refine wp_ps11 k222_23 hM.o (((coP q.2.1 q.2.2.2).2.1) + ((coP q.2.1 q.2.2.2).2.2.1)) rfl ?_
      refine wp_aload_n k222_26 rfl rfl ?_
      refine wp_iconst 1 k222_27 (by decide) ?_
      refine wp_aload_n k222_28 rfl rfl ?_
      refine wp_cv (st2 := [_, _]) k222_29 E1 (by decide) rfl rfl rfl rfl (by decide) hM.o (by show dI (q.2.1 + 1) q.2.2.1 ≤ _; unfold dI; omega) ?_
      refine wp_iconst 0 k222_32 (by decide) ?_
      refine wp_cv (st2 := []) k222_33 (e_made (T := r1.2.2.2.2) hM hbs hb g6 g7) (by decide) rfl rfl rfl rfl (by decide) hM.o (by unfold dI; omega) ?_
      exact wp_reti k222_36 rfl rfl rfl
    · obtain ⟨m2, g11, g12⟩ := mdF_b (e := er r1.2.2.2.2) (kd := 1) (a := r1.1) (c := 0) g6 g7
      exact ⟨show q.2.2.2.1 ≤ r1.2.2.2.2.1 by omega, show q.2.1 ≤ r1.2.2.1 by omega, g3, g4, g5, g8, g9, g10, m2, g11, g12⟩
  · have hR : ntQ bs R q = (0, q.1, q.2.1 + 1, q.2.2.1, coP q.2.1 q.2.2.2) := by
      unfold ntQ
      rw [if_neg hz]
    rw [hR]
    refine ⟨?_, ?_⟩
    · refine (ev_qe (D := dI q.2.1 q.2.2.1 - 2) P222 rfl ?_).mono (by unfold dI; omega)
      refine wp_aload_n k222_0 rfl rfl ?_
      refine wp_cvn (st2 := []) k222_1 (e_counts (T := q.2.2.2) hM (by omega)) (by decide) rfl rfl rfl rfl (by decide) hM.o (by unfold dI; omega) ?_
      refine wp_aload_n k222_4 rfl rfl ?_
      refine wp_getI k222_5 (by decide) hM.o rfl ((coP q.2.1 q.2.2.2).2.2.2.1) rfl ?_
      refine wp_if_eq_F k222_8 hz ?_
      refine wp_iconst 0 k222_11 (by decide) ?_
      exact wp_reti k222_12 rfl rfl rfl
    · exact ⟨Nat.le_refl _, Nat.le_succ _, rfl, q1, fun h => absurd h hz, show q.2.1 + 1 ≤ 61 by omega, fun h => absurd h hz, q5, m, q6, q7⟩
end M10
