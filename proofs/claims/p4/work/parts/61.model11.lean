section M11
/-! ===== the reference: modal items, facts, items, parts ===== -/
theorem mu_er {x c : Int32} {T : hP} (hc : c ≠ 0) (h : er (muP x c T) = 0) : er T = 0 := by
  have h : muE x (er T) c = 0 := h
  unfold muE wrE at h
  split at h
  · split at h
    · exact absurd h hc
    · rename_i h2; exact absurd h h2
  · exact h
theorem rn_ok {G f : Nat → Int32} {l base many : Nat} {T : hP} (h1 : T.1 ≤ l + 1) (h2 : er T = 0 → T.1 ≤ l) : T.1 ≤ (rnP G f l base many T).2.1 ∧ (rnP G f l base many T).2.1 ≤ l + 1 ∧ (er (rnP G f l base many T).2 = 0 → er T = 0 ∧ (rnP G f l base many T).2.1 ≤ l) := by
  unfold rnP
  by_cases h0 : er T = 0
  · rw [if_pos h0]
    have h3 := h2 h0
    have hs1 := sk_le f l T.1
    have hs2 : T.1 ≤ sk f l T.1 := skF_ge f l l T.1
    by_cases hn : nmOK f l T.1 = true
    · rw [if_pos hn]
      have hw : 1 ≤ wn f l T.1 := by
        unfold nmOK at hn
        rw [Bool.and_eq_true] at hn
        exact (of_decide_eq_true hn.1).1
      have hw2 := wn_le f l T.1
      refine ⟨?_, ?_, fun _ => ⟨h0, ?_⟩⟩
      · show T.1 ≤ sk f l T.1 + wn f l T.1
        omega
      · show sk f l T.1 + wn f l T.1 ≤ l + 1
        omega
      · show sk f l T.1 + wn f l T.1 ≤ l
        omega
    · rw [if_neg hn]
      refine ⟨hs2, ?_, fun h => ?_⟩
      · show sk f l T.1 ≤ l + 1
        omega
      · have h : er (muP 0 1 (nxP f l T)) = 0 := h
        rw [er_mu0 (show er (nxP f l T) = 0 from h0)] at h
        exact absurd h (by decide)
  · rw [if_neg h0]
    exact ⟨Nat.le_refl _, h1, fun h => absurd h h0⟩
theorem kn_ok {G f : Nat → Int32} {l base many : Nat} {T : hP} (h1 : T.1 ≤ l + 1) (h2 : er T = 0 → T.1 ≤ l) : T.1 ≤ (knP G f l base many T).2.1 ∧ (knP G f l base many T).2.1 ≤ l + 1 ∧ (er (knP G f l base many T).2 = 0 → er T = 0 ∧ (knP G f l base many T).2.1 ≤ l) := by
  obtain ⟨g1, g2, g3⟩ := rn_ok (G := G) (f := f) (base := base) (many := many) h1 h2
  exact ⟨g1, g2, fun h => g3 (mu_er (by decide) h)⟩
theorem fc_ok {S : ww_S} {sh : List mm_C} {V : hV} {G f : Nat → Int32} {l bs : Nat} {pl : Bool} {np nf : Nat} (hM : MS sh) (hC : RC V G f l bs pl np nf) {q : hQ} (hq : OKq l bs q) (h0 : er q.2.2.2 = 0) : EVq S sh V (dI q.2.1 q.2.2.1 - 1) 224 q (fcQ G f l bs nf q) ∧ Rl l bs q (fcQ G f l bs nf q).2 := by
  obtain ⟨hT, hg, hnp, h5, hnf, h5f, hbs, hb, hpl⟩ := hC
  obtain ⟨q1, q2, q3, q4, q5, m, q6, q7⟩ := hq
  have hl6 := hT.2.1
  have hq60 := q4 h0
  have hq1 := q2 h0
  obtain ⟨g1, g2, g3⟩ := kn_ok (G := G) (f := f) (base := 80) (many := nf) q1 q2
  obtain ⟨k1, hk1⟩ : ∃ k1, knP G f l 80 nf q.2.2.2 = k1 := ⟨_, rfl⟩
  have hR : fcQ G f l bs nf q = mkQ bs (q.1, q.2.1 + 1, q.2.2.1, coP q.2.1 k1.2) 0 k1.1 0 := by
    unfold fcQ
    rw [hk1]
  rw [hk1] at g1 g2 g3
  rw [hR]
  refine ⟨?_, ?_⟩
  · have E1 := e_knownF (S := S) (T := q.2.2.2) hM (tx_fm (F := q.1) (s := q.2.1) (o := q.2.2.1) hT) (by omega) (fm_g hg) hnf h5f
    rw [hk1] at E1
    refine (ev_qe (D := dI q.2.1 q.2.2.1 - 2) P224 rfl ?_).mono (by unfold dI; omega)
    refine wp_aload_n k224_0 rfl rfl ?_
    refine wp_iconst 0 k224_1 (by decide) ?_
    refine wp_cv (st2 := []) k224_2 E1 (by decide) rfl rfl rfl rfl (by decide) hM.o (by unfold dI; omega) ?_
    refine wp_istore_n (L1 := [_, _]) k224_5 rfl rfl ?_
    refine wp_aload_n k224_6 rfl rfl ?_
    refine wp_cvn (st2 := []) k224_7 (e_counts (T := k1.2) hM (by omega)) (by decide) rfl rfl rfl rfl (by decide) hM.o (by unfold dI; omega) ?_
    refine wp_aload_n k224_10 rfl rfl ?_
    refine wp_iconst 0 k224_11 (by decide) ?_
    refine wp_iload_n k224_12 rfl rfl ?_
    refine wp_iconst 0 k224_13 (by decide) ?_
    refine wp_cv (st2 := []) k224_14 (e_made (T := (coP q.2.1 k1.2)) hM hbs hb q6 q7) (by decide) rfl rfl rfl rfl (by decide) hM.o (by unfold dI; omega) ?_
    exact wp_reti k224_17 rfl rfl rfl
  · obtain ⟨m2, g11, g12⟩ := mdF_b (e := er (coP q.2.1 k1.2)) (kd := 0) (a := k1.1) (c := 0) q6 q7
    exact ⟨g1, Nat.le_succ _, rfl, g2, fun h => (g3 (co_er h).1).2, show q.2.1 + 1 ≤ 61 by omega, fun h => (co_er h).2, q5, m2, g11, g12⟩
theorem ml_ok {S : ww_S} {sh : List mm_C} {V : hV} {G f : Nat → Int32} {l bs : Nat} {pl : Bool} {np nf : Nat} (hM : MS sh) (hC : RC V G f l bs pl np nf) {R : hR} {q : hQ} (hq : OKq l bs q) {k : Int32} (h0 : er q.2.2.2 = 0) (hw1 : q.2.2.2.1 + 1 ≤ q.2.2.2.2.1 + q.2.2.2.2.2.1) (hw2 : q.2.2.2.2.1 + q.2.2.2.2.2.1 ≤ l) (H : ∀ q' : hQ, OKq l bs q' → q.2.2.2.1 + 1 ≤ q'.2.2.2.1 → q'.2.1 = q.2.1 + 1 → q'.2.2.1 = q.2.2.1 → EVq S sh V (dI q'.2.1 q'.2.2.1) 225 q' (R 0 0 q') ∧ Rl l bs q' (R 0 0 q').2) : EV S (dI q.2.1 q.2.2.1 - 1) 221 [.ref 312, .int k] (hH sh (fq V q)) (.inl (some (.int (mlQ G f l bs pl np R k q).1))) (hH sh (fq V (mlQ G f l bs pl np R k q).2)) ∧ Rl l bs q (mlQ G f l bs pl np R k q).2 := by
  obtain ⟨hT, hg, hnp, h5, hnf, h5f, hbs, hb, hpl⟩ := hC
  obtain ⟨q1, q2, q3, q4, q5, m, q6, q7⟩ := hq
  have hl6 := hT.2.1
  have hq60 := q4 h0
  by_cases hz : er (mlT pl k q) = 0
  · have hz2 := (co_er hz).2
    have hpf : pl = false := by
      cases pl with
      | false => rfl
      | true =>
        have h9 : er (muP 0 1 q.2.2.2) = 0 := (co_er hz).1
        rw [er_mu0 h0] at h9
        exact absurd h9 (by decide)
    subst hpf
    obtain ⟨k1, hk1⟩ : ∃ k1, mlK G f l false np k q = k1 := ⟨_, rfl⟩
    have hkk : q.2.2.2.2.1 + q.2.2.2.2.2.1 ≤ k1.2.1 ∧ k1.2.1 ≤ l + 1 ∧ (er k1.2 = 0 → k1.2.1 ≤ l) := by
      rw [← hk1]
      unfold mlK
      by_cases hk : k = 4 ∨ k = 5
      · rw [if_pos hk]
        obtain ⟨g1, g2, g3⟩ := kn_ok (G := G) (f := f) (l := l) (base := 115) (many := np) (T := goP (mlT false k q)) (show q.2.2.2.2.1 + q.2.2.2.2.2.1 ≤ l + 1 by omega) (fun _ => hw2)
        exact ⟨g1, g2, fun h => (g3 h).2⟩
      · rw [if_neg hk]
        exact ⟨Nat.le_refl _, show q.2.2.2.2.1 + q.2.2.2.2.2.1 ≤ l + 1 by omega, fun _ => hw2⟩
    obtain ⟨j1, j2, j3⟩ := hkk
    obtain ⟨r1, hr1⟩ : ∃ r1, R 0 0 (q.1, q.2.1 + 1, q.2.2.1, k1.2) = r1 := ⟨_, rfl⟩
    have H1 := H (q.1, q.2.1 + 1, q.2.2.1, k1.2) ⟨j2, j3, show q.2.1 + 1 ≤ 61 by omega, fun _ => show q.2.1 + 1 ≤ 60 by omega, q5, m, q6, q7⟩ (Nat.le_trans hw1 j1) rfl rfl
    rw [hr1] at H1
    obtain ⟨E1, g1, g2, g3, g4, g5, g8, g9, g10, m1, g6, g7⟩ := H1
    have g1 : k1.2.1 ≤ r1.2.2.2.2.1 := g1
    have g2 : q.2.1 + 1 ≤ r1.2.2.1 := g2
    have hR : mlQ G f l bs false np R k q = mkQ bs r1.2 k r1.1 k1.1 := by
      unfold mlQ
      rw [if_pos hz, hk1, hr1]
    rw [hR]
    refine ⟨?_, ?_⟩
    · refine (ev_qe (D := dI q.2.1 q.2.2.1 - 2) P221 rfl ?_).mono (by unfold dI; omega)
      have E0 : k = 4 ∨ k = 5 → EV S 8 212 [.ref 312, .int 1] (hH sh (pp (fmV V q.1 (q.2.1 + 1) q.2.2.1) (goP (mlT false k q)))) (.inl (some (.int k1.1))) (hH sh (pp (fmV V q.1 (q.2.1 + 1) q.2.2.1) k1.2)) := by
        intro hk
        have h9 := e_knownP (S := S) (T := goP (mlT false k q)) hM (tx_fm (F := q.1) (s := q.2.1 + 1) (o := q.2.2.1) hT) (show q.2.2.2.2.1 + q.2.2.2.2.2.1 ≤ 1000 by omega) (fm_g hg) hnp h5
        rw [show knP G f l 115 np (goP (mlT false k q)) = k1 from by rw [← hk1]; unfold mlK; rw [if_pos hk]] at h9
        exact h9
      have E9 : ¬ (k = 4 ∨ k = 5) → k1 = (0, goP (mlT false k q)) := by
        intro hk
        rw [← hk1]
        unfold mlK
        rw [if_neg hk]
      by_cases e4 : k = 4
      · refine wp_aload_n k221_0 rfl rfl ?_
        refine wp_aload_n k221_1 rfl rfl ?_
        refine wp_getIP k221_2 (by decide) hM.o rfl (by decide) (bI false) hpl ?_
        refine wp_if_ne_F k221_5 (by decide) ?_
        refine wp_iconst 1 k221_8 (by decide) ?_
        refine wp_goto k221_9 ?_
        refine wp_iconst 1 k221_13 (by decide) ?_
        refine wp_cvn (st2 := []) k221_14 (e_must hM) (by decide) rfl rfl rfl rfl (by decide) hM.o (by unfold dI; omega) ?_
        refine wp_aload_n k221_17 rfl rfl ?_
        refine wp_cvn (st2 := []) k221_18 (e_counts (T := (muP 1 1 q.2.2.2)) hM (by omega)) (by decide) rfl rfl rfl rfl (by decide) hM.o (by unfold dI; omega) ?_
        refine wp_aload_n k221_21 rfl rfl ?_
        refine wp_getI k221_22 (by decide) hM.o rfl ((coP q.2.1 (muP 1 1 q.2.2.2)).2.2.2.1) rfl ?_
        refine wp_if_eq_T k221_25 hz ?_
        refine wp_aload_n k221_30 rfl rfl ?_
        refine wp_aload_n k221_31 rfl rfl ?_
        refine wp_getI k221_32 (by decide) hM.o rfl (Int32.ofNat ((coP q.2.1 (muP 1 1 q.2.2.2)).2.1)) rfl ?_
        refine wp_aload_n k221_35 rfl rfl ?_
        refine wp_getI k221_36 (by decide) hM.o rfl (Int32.ofNat ((coP q.2.1 (muP 1 1 q.2.2.2)).2.2.1)) rfl ?_
        refine wp_iadd k221_39 ?_
        refine wp_cast (i_add _ _) ?_
        refine wp_ps11 k221_40 hM.o (((coP q.2.1 (muP 1 1 q.2.2.2)).2.1) + ((coP q.2.1 (muP 1 1 q.2.2.2)).2.2.1)) rfl ?_
        refine wp_iload_n k221_43 rfl rfl ?_
        refine wp_iconst 4 k221_44 (by decide) ?_
        refine wp_if_icmp_eq_T k221_45 e4 ?_
        refine wp_aload_n k221_53 rfl rfl ?_
        refine wp_iconst 1 k221_54 (by decide) ?_
        refine wp_cv (st2 := []) k221_55 (E0 (Or.inl e4)) (by decide) rfl rfl rfl rfl (by decide) hM.o (by unfold dI; omega) ?_
        refine wp_goto k221_58 ?_
        refine wp_istore_n (L1 := [_, _, _]) k221_62 rfl rfl ?_
        refine wp_aload_n k221_63 rfl rfl ?_
        refine wp_iload_n k221_64 rfl rfl ?_
        refine wp_aload_n k221_65 rfl rfl ?_
        refine wp_cv (st2 := [_, _]) k221_66 E1 (by decide) rfl rfl rfl rfl (by decide) hM.o (by show dI (q.2.1 + 1) q.2.2.1 ≤ _; unfold dI; omega) ?_
        refine wp_iload_n k221_69 rfl rfl ?_
        refine wp_cv (st2 := []) k221_70 (e_made (T := r1.2.2.2.2) hM hbs hb g6 g7) (by decide) rfl rfl rfl rfl (by decide) hM.o (by unfold dI; omega) ?_
        exact wp_reti k221_73 rfl rfl rfl
      · by_cases e5 : k = 5
        · refine wp_aload_n k221_0 rfl rfl ?_
          refine wp_aload_n k221_1 rfl rfl ?_
          refine wp_getIP k221_2 (by decide) hM.o rfl (by decide) (bI false) hpl ?_
          refine wp_if_ne_F k221_5 (by decide) ?_
          refine wp_iconst 1 k221_8 (by decide) ?_
          refine wp_goto k221_9 ?_
          refine wp_iconst 1 k221_13 (by decide) ?_
          refine wp_cvn (st2 := []) k221_14 (e_must hM) (by decide) rfl rfl rfl rfl (by decide) hM.o (by unfold dI; omega) ?_
          refine wp_aload_n k221_17 rfl rfl ?_
          refine wp_cvn (st2 := []) k221_18 (e_counts (T := (muP 1 1 q.2.2.2)) hM (by omega)) (by decide) rfl rfl rfl rfl (by decide) hM.o (by unfold dI; omega) ?_
          refine wp_aload_n k221_21 rfl rfl ?_
          refine wp_getI k221_22 (by decide) hM.o rfl ((coP q.2.1 (muP 1 1 q.2.2.2)).2.2.2.1) rfl ?_
          refine wp_if_eq_T k221_25 hz ?_
          refine wp_aload_n k221_30 rfl rfl ?_
          refine wp_aload_n k221_31 rfl rfl ?_
          refine wp_getI k221_32 (by decide) hM.o rfl (Int32.ofNat ((coP q.2.1 (muP 1 1 q.2.2.2)).2.1)) rfl ?_
          refine wp_aload_n k221_35 rfl rfl ?_
          refine wp_getI k221_36 (by decide) hM.o rfl (Int32.ofNat ((coP q.2.1 (muP 1 1 q.2.2.2)).2.2.1)) rfl ?_
          refine wp_iadd k221_39 ?_
          refine wp_cast (i_add _ _) ?_
          refine wp_ps11 k221_40 hM.o (((coP q.2.1 (muP 1 1 q.2.2.2)).2.1) + ((coP q.2.1 (muP 1 1 q.2.2.2)).2.2.1)) rfl ?_
          refine wp_iload_n k221_43 rfl rfl ?_
          refine wp_iconst 4 k221_44 (by decide) ?_
          refine wp_if_icmp_eq_F k221_45 e4 ?_
          refine wp_iload_n k221_48 rfl rfl ?_
          refine wp_iconst 5 k221_49 (by decide) ?_
          refine wp_if_icmp_ne_F k221_50 e5 ?_
          refine wp_aload_n k221_53 rfl rfl ?_
          refine wp_iconst 1 k221_54 (by decide) ?_
          refine wp_cv (st2 := []) k221_55 (E0 (Or.inr e5)) (by decide) rfl rfl rfl rfl (by decide) hM.o (by unfold dI; omega) ?_
          refine wp_goto k221_58 ?_
          refine wp_istore_n (L1 := [_, _, _]) k221_62 rfl rfl ?_
          refine wp_aload_n k221_63 rfl rfl ?_
          refine wp_iload_n k221_64 rfl rfl ?_
          refine wp_aload_n k221_65 rfl rfl ?_
          refine wp_cv (st2 := [_, _]) k221_66 E1 (by decide) rfl rfl rfl rfl (by decide) hM.o (by show dI (q.2.1 + 1) q.2.2.1 ≤ _; unfold dI; omega) ?_
          refine wp_iload_n k221_69 rfl rfl ?_
          refine wp_cv (st2 := []) k221_70 (e_made (T := r1.2.2.2.2) hM hbs hb g6 g7) (by decide) rfl rfl rfl rfl (by decide) hM.o (by unfold dI; omega) ?_
          exact wp_reti k221_73 rfl rfl rfl
        · have e9 := E9 (by rintro (h | h); exact e4 h; exact e5 h)
          rw [e9] at E1 ⊢
          refine wp_aload_n k221_0 rfl rfl ?_
          refine wp_aload_n k221_1 rfl rfl ?_
          refine wp_getIP k221_2 (by decide) hM.o rfl (by decide) (bI false) hpl ?_
          refine wp_if_ne_F k221_5 (by decide) ?_
          refine wp_iconst 1 k221_8 (by decide) ?_
          refine wp_goto k221_9 ?_
          refine wp_iconst 1 k221_13 (by decide) ?_
          refine wp_cvn (st2 := []) k221_14 (e_must hM) (by decide) rfl rfl rfl rfl (by decide) hM.o (by unfold dI; omega) ?_
          refine wp_aload_n k221_17 rfl rfl ?_
          refine wp_cvn (st2 := []) k221_18 (e_counts (T := (muP 1 1 q.2.2.2)) hM (by omega)) (by decide) rfl rfl rfl rfl (by decide) hM.o (by unfold dI; omega) ?_
          refine wp_aload_n k221_21 rfl rfl ?_
          refine wp_getI k221_22 (by decide) hM.o rfl ((coP q.2.1 (muP 1 1 q.2.2.2)).2.2.2.1) rfl ?_
          refine wp_if_eq_T k221_25 hz ?_
          refine wp_aload_n k221_30 rfl rfl ?_
          refine wp_aload_n k221_31 rfl rfl ?_
          refine wp_getI k221_32 (by decide) hM.o rfl (Int32.ofNat ((coP q.2.1 (muP 1 1 q.2.2.2)).2.1)) rfl ?_
          refine wp_aload_n k221_35 rfl rfl ?_
          refine wp_getI k221_36 (by decide) hM.o rfl (Int32.ofNat ((coP q.2.1 (muP 1 1 q.2.2.2)).2.2.1)) rfl ?_
          refine wp_iadd k221_39 ?_
          refine wp_cast (i_add _ _) ?_
          refine wp_ps11 k221_40 hM.o (((coP q.2.1 (muP 1 1 q.2.2.2)).2.1) + ((coP q.2.1 (muP 1 1 q.2.2.2)).2.2.1)) rfl ?_
          refine wp_iload_n k221_43 rfl rfl ?_
          refine wp_iconst 4 k221_44 (by decide) ?_
          refine wp_if_icmp_eq_F k221_45 e4 ?_
          refine wp_iload_n k221_48 rfl rfl ?_
          refine wp_iconst 5 k221_49 (by decide) ?_
          refine wp_if_icmp_ne_T k221_50 e5 ?_
          refine wp_iconst 0 k221_61 (by decide) ?_
          refine wp_istore_n (L1 := [_, _, _]) k221_62 rfl rfl ?_
          refine wp_aload_n k221_63 rfl rfl ?_
          refine wp_iload_n k221_64 rfl rfl ?_
          refine wp_aload_n k221_65 rfl rfl ?_
          refine wp_cv (st2 := [_, _]) k221_66 E1 (by decide) rfl rfl rfl rfl (by decide) hM.o (by show dI (q.2.1 + 1) q.2.2.1 ≤ _; unfold dI; omega) ?_
          refine wp_iload_n k221_69 rfl rfl ?_
          refine wp_cv (st2 := []) k221_70 (e_made (T := r1.2.2.2.2) hM hbs hb g6 g7) (by decide) rfl rfl rfl rfl (by decide) hM.o (by unfold dI; omega) ?_
          exact wp_reti k221_73 rfl rfl rfl
    · obtain ⟨m2, g11, g12⟩ := mdF_b (e := er r1.2.2.2.2) (kd := k) (a := r1.1) (c := k1.1) g6 g7
      exact ⟨show q.2.2.2.1 ≤ r1.2.2.2.2.1 by omega, show q.2.1 ≤ r1.2.2.1 by omega, g3, g4, g5, g8, g9, g10, m2, g11, g12⟩
  · have hR : mlQ G f l bs pl np R k q = (0, q.1, q.2.1 + 1, q.2.2.1, mlT pl k q) := by
      unfold mlQ
      rw [if_neg hz]
    rw [hR]
    refine ⟨?_, ?_⟩
    · refine (ev_qe (D := dI q.2.1 q.2.2.1 - 2) P221 rfl ?_).mono (by unfold dI; omega)
      cases pl with
      | false =>
        refine wp_aload_n k221_0 rfl rfl ?_
        refine wp_aload_n k221_1 rfl rfl ?_
        refine wp_getIP k221_2 (by decide) hM.o rfl (by decide) (bI false) hpl ?_
        refine wp_if_ne_F k221_5 (by decide) ?_
        refine wp_iconst 1 k221_8 (by decide) ?_
        refine wp_goto k221_9 ?_
        refine wp_iconst 1 k221_13 (by decide) ?_
        refine wp_cvn (st2 := []) k221_14 (e_must hM) (by decide) rfl rfl rfl rfl (by decide) hM.o (by unfold dI; omega) ?_
        refine wp_aload_n k221_17 rfl rfl ?_
        refine wp_cvn (st2 := []) k221_18 (e_counts (T := (muP 1 1 q.2.2.2)) hM (by omega)) (by decide) rfl rfl rfl rfl (by decide) hM.o (by unfold dI; omega) ?_
        refine wp_aload_n k221_21 rfl rfl ?_
        refine wp_getI k221_22 (by decide) hM.o rfl ((coP q.2.1 (muP 1 1 q.2.2.2)).2.2.2.1) rfl ?_
        refine wp_if_eq_F k221_25 hz ?_
        refine wp_iconst 0 k221_28 (by decide) ?_
        exact wp_reti k221_29 rfl rfl rfl
      | true =>
        refine wp_aload_n k221_0 rfl rfl ?_
        refine wp_aload_n k221_1 rfl rfl ?_
        refine wp_getIP k221_2 (by decide) hM.o rfl (by decide) (bI true) hpl ?_
        refine wp_if_ne_T k221_5 (by decide) ?_
        refine wp_iconst 0 k221_12 (by decide) ?_
        refine wp_iconst 1 k221_13 (by decide) ?_
        refine wp_cvn (st2 := []) k221_14 (e_must hM) (by decide) rfl rfl rfl rfl (by decide) hM.o (by unfold dI; omega) ?_
        refine wp_aload_n k221_17 rfl rfl ?_
        refine wp_cvn (st2 := []) k221_18 (e_counts (T := (muP 0 1 q.2.2.2)) hM (by omega)) (by decide) rfl rfl rfl rfl (by decide) hM.o (by unfold dI; omega) ?_
        refine wp_aload_n k221_21 rfl rfl ?_
        refine wp_getI k221_22 (by decide) hM.o rfl ((coP q.2.1 (muP 0 1 q.2.2.2)).2.2.2.1) rfl ?_
        refine wp_if_eq_F k221_25 hz ?_
        refine wp_iconst 0 k221_28 (by decide) ?_
        exact wp_reti k221_29 rfl rfl rfl
    · exact ⟨Nat.le_refl _, Nat.le_succ _, rfl, q1, fun h => absurd h hz, show q.2.1 + 1 ≤ 61 by omega, fun h => absurd h hz, q5, m, q6, q7⟩
end M11
