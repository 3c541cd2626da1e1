section M12
/-! ===== the reference: items, parts, whole formulas ===== -/
theorem nxQ_ok {f : Nat → Int32} {l bs : Nat} {q : hQ} (hq : OKq l bs q) (h0 : er q.2.2.2 = 0) : OKq l bs (nxQ f l q) ∧ q.2.2.2.1 ≤ (nxQ f l q).2.2.2.1 := by
  obtain ⟨q1, q2, q3, q4, q5, m, q6, q7⟩ := hq
  have h2 := q2 h0
  have hs1 := sk_le f l q.2.2.2.1
  have hs2 : q.2.2.2.1 ≤ sk f l q.2.2.2.1 := skF_ge f l l q.2.2.2.1
  exact ⟨⟨show sk f l q.2.2.2.1 ≤ l + 1 by omega, fun _ => show sk f l q.2.2.2.1 ≤ l by omega, q3, q4, q5, m, q6, q7⟩, hs2⟩
theorem se_wn {f : Nat → Int32} {l a n N : Nat} (h : seW f l a n N = true) : wn f l a = n := by
  unfold seW at h
  rw [Bool.and_eq_true] at h
  exact of_decide_eq_true h.1
theorem mk_wn {f : Nat → Int32} {l a : Nat} (h : ¬ mkF f l a = -1) : 1 ≤ wn f l a := by
  unfold mkF at h
  split at h
  · rename_i h1; rw [se_wn h1]; decide
  · split at h
    · rename_i h1; rw [se_wn h1]; decide
    · split at h
      · rename_i h1; rw [se_wn h1]; decide
      · split at h
        · rename_i h1; rw [se_wn h1]; decide
        · exact absurd rfl h
theorem Rl.tr {l bs : Nat} {a b c : hQ} (h1 : a.2.2.2.1 ≤ b.2.2.2.1 ∧ a.2.1 ≤ b.2.1 ∧ b.2.2.1 = a.2.2.1) (h2 : Rl l bs b c) : Rl l bs a c := ⟨Nat.le_trans h1.1 h2.1, Nat.le_trans h1.2.1 h2.2.1, h2.2.2.1.trans h1.2.2, h2.2.2.2⟩
theorem it_ok {S : ww_S} {sh : List mm_C} {V : hV} {G f : Nat → Int32} {l bs : Nat} {pl : Bool} {np nf : Nat} (hM : MS sh) (hC : RC V G f l bs pl np nf) {R : hR} {q : hQ} (hq : OKq l bs q) (H : ∀ q' : hQ, OKq l bs q' → q.2.2.2.1 + 1 ≤ q'.2.2.2.1 → q'.2.1 = q.2.1 + 1 → q'.2.2.1 = q.2.2.1 → EVq S sh V (dI q'.2.1 q'.2.2.1) 225 q' (R 0 0 q') ∧ Rl l bs q' (R 0 0 q').2) (H2 : ∀ q' : hQ, OKq l bs q' → q.2.2.2.1 + 1 ≤ q'.2.2.2.1 → q'.2.1 = q.2.1 → q'.2.2.1 = q.2.2.1 + 1 → EVq S sh V (dI q'.2.1 q'.2.2.1 + 2) 227 q' (R 2 0 q') ∧ Rl l bs q' (R 2 0 q').2) : EVq S sh V (dI q.2.1 q.2.2.1) 225 q (itQ G f l bs pl np nf R q) ∧ Rl l bs q (itQ G f l bs pl np nf R q).2 := by
  have hC0 := hC
  obtain ⟨hT, hg, hnp, h5, hnf, h5f, hbs, hb, hpl⟩ := hC0
  have hl6 := hT.2.1
  have hq0 := hq
  obtain ⟨q1, q2, q3, q4, q5, m, q6, q7⟩ := hq0
  by_cases h0 : er q.2.2.2 = 0
  · have hq60 := q4 h0
    have hq1 := q2 h0
    obtain ⟨hN, hN1⟩ := nxQ_ok (f := f) hq h0
    have hs1 := sk_le f l q.2.2.2.1
    have hs2 : q.2.2.2.1 ≤ sk f l q.2.2.2.1 := skF_ge f l l q.2.2.2.1
    have hw2 := wn_le f l q.2.2.2.1
    by_cases hb4 : byt f l (sk f l q.2.2.2.1) = 40
    · have hR : itQ G f l bs pl np nf R q = inQ f l R (nxQ f l q) := by
        unfold itQ
        rw [if_pos h0, if_pos hb4]
      have hlt : sk f l q.2.2.2.1 < l := by
        refine Nat.lt_of_not_le fun z => ?_
        rw [byt_ge z] at hb4
        exact absurd hb4 (by decide)
      rw [hR]
      obtain ⟨E1, g⟩ := in_ok (S := S) (R := R) hM hC hN (show er q.2.2.2 = 0 from h0) hlt (fun q' k1 k2 k3 k4 => H2 q' k1 (Nat.le_trans (Nat.succ_le_succ hN1) k2) k3 k4)
      refine ⟨?_, Rl.tr ⟨hN1, Nat.le_refl _, rfl⟩ g⟩
      refine (ev_qe (D := dI q.2.1 q.2.2.1 - 1) P225 rfl ?_).mono (by unfold dI; omega)
      refine wp_aload_n k225_0 rfl rfl ?_
      refine wp_getI k225_1 (by decide) hM.o rfl (q.2.2.2.2.2.2.1) rfl ?_
      refine wp_if_eq_T k225_4 h0 ?_
      refine wp_aload_n k225_9 rfl rfl ?_
      refine wp_cv (st2 := []) k225_10 (e_nextT (a := q.2.2.2.1) hM (tx_fm (F := q.1) (s := q.2.1) (o := q.2.2.1) hT) (by omega)) (by decide) rfl rfl rfl rfl (by decide) hM.o (by unfold dI; omega) ?_
      refine wp_bipush 40 k225_13 (by decide) ?_
      refine wp_if_icmp_ne_F k225_15 hb4 ?_
      refine wp_aload_n k225_18 rfl rfl ?_
      refine wp_cv (st2 := []) k225_19 E1 (by decide) rfl rfl rfl rfl (by decide) hM.o (Nat.le_refl _) ?_
      exact wp_reti k225_22 rfl rfl rfl
    · by_cases hn : seW f l q.2.2.2.1 3 2139822313027049357422 = true
      · have hR : itQ G f l bs pl np nf R q = ntQ bs R (nxQ f l q) := by
          unfold itQ
          rw [if_pos h0, if_neg hb4, if_pos hn]
        have hw := se_wn hn
        rw [hR]
        obtain ⟨E1, g⟩ := nt_ok (S := S) (R := R) hM hC hN (show er q.2.2.2 = 0 from h0) (show sk f l q.2.2.2.1 + 1 ≤ sk f l q.2.2.2.1 + wn f l q.2.2.2.1 by omega) (show sk f l q.2.2.2.1 + wn f l q.2.2.2.1 ≤ l by omega) (fun q' k1 k2 k3 k4 => H q' k1 (Nat.le_trans (Nat.succ_le_succ hN1) k2) k3 k4)
        refine ⟨?_, Rl.tr ⟨hN1, Nat.le_refl _, rfl⟩ g⟩
        refine (ev_qe (D := dI q.2.1 q.2.2.1 - 1) P225 rfl ?_).mono (by unfold dI; omega)
        refine wp_aload_n k225_0 rfl rfl ?_
        refine wp_getI k225_1 (by decide) hM.o rfl (q.2.2.2.2.2.2.1) rfl ?_
        refine wp_if_eq_T k225_4 h0 ?_
        refine wp_aload_n k225_9 rfl rfl ?_
        refine wp_cv (st2 := []) k225_10 (e_nextT (a := q.2.2.2.1) hM (tx_fm (F := q.1) (s := q.2.1) (o := q.2.2.1) hT) (by omega)) (by decide) rfl rfl rfl rfl (by decide) hM.o (by unfold dI; omega) ?_
        refine wp_bipush 40 k225_13 (by decide) ?_
        refine wp_if_icmp_ne_T k225_15 hb4 ?_
        refine wp_aload_n k225_23 rfl rfl ?_
        refine wp_ldcR k225_24 ?_
        refine wp_cv (st2 := []) k225_26 (e_sees2 (a := q.2.2.2.1) (e := q.2.2.2.2.2.2.1) (ea := q.2.2.2.2.2.2.2) hM (tx_fm (F := q.1) (s := q.2.1) (o := q.2.2.1) hT) (by omega) XS6) (by decide) rfl rfl rfl rfl (by decide) hM.o (by unfold dI; omega) ?_
        refine wp_if_eq_F k225_29 (bI_n0.mpr (by rw [hn, Bool.and_true]; exact decide_eq_true h0)) ?_
        refine wp_aload_n k225_32 rfl rfl ?_
        refine wp_cv (st2 := []) k225_33 E1 (by decide) rfl rfl rfl rfl (by decide) hM.o (Nat.le_refl _) ?_
        exact wp_reti k225_36 rfl rfl rfl
      · by_cases hm1 : mkF f l q.2.2.2.1 = -1
        · have hR : itQ G f l bs pl np nf R q = fcQ G f l bs nf (nxQ f l q) := by
            unfold itQ
            rw [if_pos h0, if_neg hb4, if_neg hn, if_pos hm1]
          rw [hR]
          obtain ⟨E1, g⟩ := fc_ok (S := S) hM hC hN (show er q.2.2.2 = 0 from h0)
          refine ⟨?_, Rl.tr ⟨hN1, Nat.le_refl _, rfl⟩ g⟩
          refine (ev_qe (D := dI q.2.1 q.2.2.1 - 1) P225 rfl ?_).mono (by unfold dI; omega)
          refine wp_aload_n k225_0 rfl rfl ?_
          refine wp_getI k225_1 (by decide) hM.o rfl (q.2.2.2.2.2.2.1) rfl ?_
          refine wp_if_eq_T k225_4 h0 ?_
          refine wp_aload_n k225_9 rfl rfl ?_
          refine wp_cv (st2 := []) k225_10 (e_nextT (a := q.2.2.2.1) hM (tx_fm (F := q.1) (s := q.2.1) (o := q.2.2.1) hT) (by omega)) (by decide) rfl rfl rfl rfl (by decide) hM.o (by unfold dI; omega) ?_
          refine wp_bipush 40 k225_13 (by decide) ?_
          refine wp_if_icmp_ne_T k225_15 hb4 ?_
          refine wp_aload_n k225_23 rfl rfl ?_
          refine wp_ldcR k225_24 ?_
          refine wp_cv (st2 := []) k225_26 (e_sees2 (a := q.2.2.2.1) (e := q.2.2.2.2.2.2.1) (ea := q.2.2.2.2.2.2.2) hM (tx_fm (F := q.1) (s := q.2.1) (o := q.2.2.1) hT) (by omega) XS6) (by decide) rfl rfl rfl rfl (by decide) hM.o (by unfold dI; omega) ?_
          refine wp_if_eq_T k225_29 (bI_0.mpr (by rw [show seW f l q.2.2.2.1 3 2139822313027049357422 = false from Bool.eq_false_iff.mpr hn, Bool.and_false])) ?_
          refine wp_aload_n k225_37 rfl rfl ?_
          refine wp_cv (st2 := []) k225_38 (e_modal (T := q.2.2.2) hM (tx_fm (F := q.1) (s := q.2.1) (o := q.2.2.1) hT) (by omega) h0) (by decide) rfl rfl rfl rfl (by decide) hM.o (by unfold dI; omega) ?_
          refine wp_istore_n (L1 := [_, _]) k225_41 rfl rfl ?_
          refine wp_iload_n k225_42 rfl rfl ?_
          refine wp_iconst (-1) k225_43 (by decide) ?_
          refine wp_if_icmp_eq_T k225_44 hm1 ?_
          refine wp_aload_n k225_55 rfl rfl ?_
          refine wp_cv (st2 := []) k225_56 E1 (by decide) rfl rfl rfl rfl (by decide) hM.o (Nat.le_refl _) ?_
          exact wp_reti k225_59 rfl rfl rfl
        · have hR : itQ G f l bs pl np nf R q = mlQ G f l bs pl np R (mkF f l q.2.2.2.1) (nxQ f l q) := by
            unfold itQ
            rw [if_pos h0, if_neg hb4, if_neg hn, if_neg hm1]
          have hw := mk_wn hm1
          rw [hR]
          obtain ⟨E1, g⟩ := ml_ok (S := S) (R := R) (k := mkF f l q.2.2.2.1) hM hC hN (show er q.2.2.2 = 0 from h0) (show sk f l q.2.2.2.1 + 1 ≤ sk f l q.2.2.2.1 + wn f l q.2.2.2.1 by omega) (show sk f l q.2.2.2.1 + wn f l q.2.2.2.1 ≤ l by omega) (fun q' k1 k2 k3 k4 => H q' k1 (Nat.le_trans (Nat.succ_le_succ hN1) k2) k3 k4)
          refine ⟨?_, Rl.tr ⟨hN1, Nat.le_refl _, rfl⟩ g⟩
          refine (ev_qe (D := dI q.2.1 q.2.2.1 - 1) P225 rfl ?_).mono (by unfold dI; omega)
          refine wp_aload_n k225_0 rfl rfl ?_
          refine wp_getI k225_1 (by decide) hM.o rfl (q.2.2.2.2.2.2.1) rfl ?_
          refine wp_if_eq_T k225_4 h0 ?_
          refine wp_aload_n k225_9 rfl rfl ?_
          refine wp_cv (st2 := []) k225_10 (e_nextT (a := q.2.2.2.1) hM (tx_fm (F := q.1) (s := q.2.1) (o := q.2.2.1) hT) (by omega)) (by decide) rfl rfl rfl rfl (by decide) hM.o (by unfold dI; omega) ?_
          refine wp_bipush 40 k225_13 (by decide) ?_
          refine wp_if_icmp_ne_T k225_15 hb4 ?_
          refine wp_aload_n k225_23 rfl rfl ?_
          refine wp_ldcR k225_24 ?_
          refine wp_cv (st2 := []) k225_26 (e_sees2 (a := q.2.2.2.1) (e := q.2.2.2.2.2.2.1) (ea := q.2.2.2.2.2.2.2) hM (tx_fm (F := q.1) (s := q.2.1) (o := q.2.2.1) hT) (by omega) XS6) (by decide) rfl rfl rfl rfl (by decide) hM.o (by unfold dI; omega) ?_
          refine wp_if_eq_T k225_29 (bI_0.mpr (by rw [show seW f l q.2.2.2.1 3 2139822313027049357422 = false from Bool.eq_false_iff.mpr hn, Bool.and_false])) ?_
          refine wp_aload_n k225_37 rfl rfl ?_
          refine wp_cv (st2 := []) k225_38 (e_modal (T := q.2.2.2) hM (tx_fm (F := q.1) (s := q.2.1) (o := q.2.2.1) hT) (by omega) h0) (by decide) rfl rfl rfl rfl (by decide) hM.o (by unfold dI; omega) ?_
          refine wp_istore_n (L1 := [_, _]) k225_41 rfl rfl ?_
          refine wp_iload_n k225_42 rfl rfl ?_
          refine wp_iconst (-1) k225_43 (by decide) ?_
          refine wp_if_icmp_eq_F k225_44 hm1 ?_
          refine wp_aload_n k225_47 rfl rfl ?_
          refine wp_iload_n k225_48 rfl rfl ?_
          refine wp_cv (st2 := []) k225_49 E1 (by decide) rfl rfl rfl rfl (by decide) hM.o (Nat.le_refl _) ?_
          refine wp_goto k225_52 ?_
          exact wp_reti k225_59 rfl rfl rfl
  · have hR : itQ G f l bs pl np nf R q = (0, q) := if_neg h0
    rw [hR]
    refine ⟨?_, Nat.le_refl _, Nat.le_refl _, rfl, hq⟩
    refine (ev_qe (D := dI q.2.1 q.2.2.1 - 1) P225 rfl ?_).mono (by unfold dI; omega)
    refine wp_aload_n k225_0 rfl rfl ?_
    refine wp_getI k225_1 (by decide) hM.o rfl (q.2.2.2.2.2.2.1) rfl ?_
    refine wp_if_eq_F k225_4 h0 ?_
    refine wp_iconst 0 k225_7 (by decide) ?_
    exact wp_reti k225_8 rfl rfl rfl
theorem jp_ok {S : ww_S} {sh : List mm_C} {V : hV} {G f : Nat → Int32} {l bs : Nat} {pl : Bool} {np nf : Nat} (hM : MS sh) (hC : RC V G f l bs pl np nf) {R : hR} {q : hQ} (hq : OKq l bs q) {k : Int32} {D : Nat} (hD : dI q.2.1 q.2.2.1 + 0 ≤ D) (H : ∀ q' : hQ, OKq l bs q' → q.2.2.2.1 + 1 ≤ q'.2.2.2.1 → q'.2.1 = q.2.1 + 1 → q'.2.2.1 = q.2.2.1 → EVq S sh V (dI q'.2.1 q'.2.2.1 + 0) 225 q' (R 0 0 q') ∧ Rl l bs q' (R 0 0 q').2) (H3 : ∀ (k : Int32) (q' : hQ), OKq l bs q' → q.2.2.2.1 + 1 ≤ q'.2.2.2.1 → q.2.1 ≤ q'.2.1 → q'.2.2.1 = q.2.2.1 → WP S D mm_m226 5 [some (.ref 312), some (.int k)] [] (hH sh (fq V q')) (qe (.inl (some (.int (R 3 k q').1))) (hH sh (fq V (R 3 k q').2))) ∧ Rl l bs q' (R 3 k q').2) : WP S D mm_m226 5 [some (.ref 312), some (.int k)] [] (hH sh (fq V q)) (qe (.inl (some (.int (jnQ f l bs R 3 1844674407843401564257 0 3 2 k q).1))) (hH sh (fq V (jnQ f l bs R 3 1844674407843401564257 0 3 2 k q).2))) ∧ Rl l bs q (jnQ f l bs R 3 1844674407843401564257 0 3 2 k q).2 := by
  obtain ⟨hT, hg, hnp, h5, hnf, h5f, hbs, hb, hpl⟩ := hC
  have hq0 := hq
  obtain ⟨q1, q2, q3, q4, q5, m, q6, q7⟩ := hq0
  have hl6 := hT.2.1
  have ha : q.2.2.2.1 ≤ 3000 := by omega
  have hs1 := sk_le f l q.2.2.2.1
  have hs2 : q.2.2.2.1 ≤ sk f l q.2.2.2.1 := skF_ge f l l q.2.2.2.1
  have hw2 := wn_le f l q.2.2.2.1
  have ES := e_sees (S := S) (a := q.2.2.2.1) (b := q.2.2.2.2.1) (w := q.2.2.2.2.2.1) (e := q.2.2.2.2.2.2.1) (ea := q.2.2.2.2.2.2.2) hM (tx_fm (F := q.1) (s := q.2.1) (o := q.2.2.1) hT) ha XS16
  by_cases hs : seB f l q.2.2.2 3 1844674407843401564257 = true
  · have hs9 := hs
    unfold seB at hs9
    rw [Bool.and_eq_true] at hs9
    have h0 : er q.2.2.2 = 0 := of_decide_eq_true hs9.1
    have hw := se_wn hs9.2
    have hq60 := q4 h0
    have hq1 := q2 h0
    by_cases hz : er (coP q.2.1 (nxP f l q.2.2.2)) = 0
    · have hz2 := (co_er hz).2
      obtain ⟨r1, hr1⟩ : ∃ r1, R 0 0 (q.1, q.2.1 + 1, q.2.2.1, goP (coP q.2.1 (nxP f l q.2.2.2))) = r1 := ⟨_, rfl⟩
      have H1 := H (q.1, q.2.1 + 1, q.2.2.1, goP (coP q.2.1 (nxP f l q.2.2.2))) ⟨show sk f l q.2.2.2.1 + wn f l q.2.2.2.1 ≤ l + 1 by omega, fun _ => show sk f l q.2.2.2.1 + wn f l q.2.2.2.1 ≤ l by omega, show q.2.1 + 1 ≤ 61 by omega, fun _ => show q.2.1 + 1 ≤ 60 by omega, q5, m, q6, q7⟩ (show q.2.2.2.1 + 1 ≤ sk f l q.2.2.2.1 + wn f l q.2.2.2.1 by omega) rfl rfl
      rw [hr1] at H1
      obtain ⟨E1, g1, g2, g3, g4, g5, g8, g9, g10, m1, g6, g7⟩ := H1
      have g1 : sk f l q.2.2.2.1 + wn f l q.2.2.2.1 ≤ r1.2.2.2.2.1 := g1
      have g2 : q.2.1 + 1 ≤ r1.2.2.1 := g2
      have g3 : r1.2.2.2.1 = q.2.2.1 := g3
      obtain ⟨m2, g11, g12⟩ := mdF_b (e := er r1.2.2.2.2) (kd := 2) (a := k) (c := r1.1) g6 g7
      obtain ⟨E3, g13⟩ := H3 (mkQ bs r1.2 2 k r1.1).1 (mkQ bs r1.2 2 k r1.1).2 ⟨g4, g5, g8, g9, g10, m2, g11, g12⟩ (show q.2.2.2.1 + 1 ≤ r1.2.2.2.2.1 by omega) (show q.2.1 ≤ r1.2.2.1 by omega) g3
      have hR : jnQ f l bs R 3 1844674407843401564257 0 3 2 k q = R 3 (mkQ bs r1.2 2 k r1.1).1 (mkQ bs r1.2 2 k r1.1).2 := by
        unfold jnQ
        rw [if_pos hs, if_pos hz, hr1]
      rw [hR]
      refine ⟨?_, Rl.tr ⟨show q.2.2.2.1 ≤ r1.2.2.2.2.1 by omega, show q.2.1 ≤ r1.2.2.1 by omega, g3⟩ g13⟩
      refine wp_aload_n k226_5 rfl rfl ?_
      refine wp_ldcR k226_6 ?_
      refine wp_cv (st2 := []) k226_8 ES (by decide) rfl rfl rfl rfl (by decide) hM.o (by unfold dI at hD; omega) ?_
      refine wp_if_eq_F k226_11 (bI_n0.mpr hs) ?_
      refine wp_aload_n k226_14 rfl rfl ?_
      refine wp_cvn (st2 := []) k226_15 (e_counts (T := (nxP f l q.2.2.2)) hM (by omega)) (by decide) rfl rfl rfl rfl (by decide) hM.o (by unfold dI at hD; omega) ?_
      refine wp_aload_n k226_18 rfl rfl ?_
      refine wp_getI k226_19 (by decide) hM.o rfl ((coP q.2.1 (nxP f l q.2.2.2)).2.2.2.1) rfl ?_
      refine wp_if_eq_T k226_22 hz ?_
      refine wp_aload_n k226_27 rfl rfl ?_
      refine wp_aload_n k226_28 rfl rfl ?_
      refine wp_getI k226_29 (by decide) hM.o rfl (Int32.ofNat ((coP q.2.1 (nxP f l q.2.2.2)).2.1)) rfl ?_
      refine wp_aload_n k226_32 rfl rfl ?_
      refine wp_getI k226_33 (by decide) hM.o rfl (Int32.ofNat ((coP q.2.1 (nxP f l q.2.2.2)).2.2.1)) rfl ?_
      refine wp_iadd k226_36 ?_
      refine wp_cast (i_add _ _) ?_
      refine wp_ps11 k226_37 hM.o (((coP q.2.1 (nxP f l q.2.2.2)).2.1) + ((coP q.2.1 (nxP f l q.2.2.2)).2.2.1)) rfl ?_
      refine wp_aload_n k226_40 rfl rfl ?_
      refine wp_iconst 2 k226_41 (by decide) ?_
      refine wp_iload_n k226_42 rfl rfl ?_
      refine wp_aload_n k226_43 rfl rfl ?_
      refine wp_cv (st2 := [_, _, _]) k226_44 E1 (by decide) rfl rfl rfl rfl (by decide) hM.o (Nat.le_trans (show dI (q.2.1 + 1) q.2.2.1 + 0 ≤ dI q.2.1 q.2.2.1 + 0 by unfold dI; omega) hD) ?_
      refine wp_cv (st2 := []) k226_47 (e_made (T := r1.2.2.2.2) hM hbs hb g6 g7) (by decide) rfl rfl rfl rfl (by decide) hM.o (by unfold dI at hD; omega) ?_
      refine wp_istore_n (L1 := [_, _]) k226_50 rfl rfl ?_
      refine wp_goto k226_51 ?_
      exact E3
    · have hR : jnQ f l bs R 3 1844674407843401564257 0 3 2 k q = (0, q.1, q.2.1 + 1, q.2.2.1, coP q.2.1 (nxP f l q.2.2.2)) := by
        unfold jnQ
        rw [if_pos hs, if_neg hz]
      rw [hR]
      refine ⟨?_, hs2, Nat.le_succ _, rfl, show sk f l q.2.2.2.1 ≤ l + 1 by omega, fun h => absurd h hz, show q.2.1 + 1 ≤ 61 by omega, fun h => absurd h hz, q5, m, q6, q7⟩
      refine wp_aload_n k226_5 rfl rfl ?_
      refine wp_ldcR k226_6 ?_
      refine wp_cv (st2 := []) k226_8 ES (by decide) rfl rfl rfl rfl (by decide) hM.o (by unfold dI at hD; omega) ?_
      refine wp_if_eq_F k226_11 (bI_n0.mpr hs) ?_
      refine wp_aload_n k226_14 rfl rfl ?_
      refine wp_cvn (st2 := []) k226_15 (e_counts (T := (nxP f l q.2.2.2)) hM (by omega)) (by decide) rfl rfl rfl rfl (by decide) hM.o (by unfold dI at hD; omega) ?_
      refine wp_aload_n k226_18 rfl rfl ?_
      refine wp_getI k226_19 (by decide) hM.o rfl ((coP q.2.1 (nxP f l q.2.2.2)).2.2.2.1) rfl ?_
      refine wp_if_eq_F k226_22 hz ?_
      refine wp_iconst 0 k226_25 (by decide) ?_
      exact wp_reti k226_26 rfl rfl rfl
  · have hR : jnQ f l bs R 3 1844674407843401564257 0 3 2 k q = (k, nxQ f l q) := by
      unfold jnQ
      rw [if_neg hs]
    rw [hR]
    refine ⟨?_, hs2, Nat.le_refl _, rfl, show sk f l q.2.2.2.1 ≤ l + 1 by omega, fun h => ?_, q3, q4, q5, m, q6, q7⟩
    · refine wp_aload_n k226_5 rfl rfl ?_
      refine wp_ldcR k226_6 ?_
      refine wp_cv (st2 := []) k226_8 ES (by decide) rfl rfl rfl rfl (by decide) hM.o (by unfold dI at hD; omega) ?_
      refine wp_if_eq_T k226_11 (bI_0.mpr (Bool.eq_false_iff.mpr hs)) ?_
      refine wp_iload_n k226_54 rfl rfl ?_
      exact wp_reti k226_55 rfl rfl rfl
    · have h9 := q2 h
      show sk f l q.2.2.2.1 ≤ l
      omega
theorem ja_ok {S : ww_S} {sh : List mm_C} {V : hV} {G f : Nat → Int32} {l bs : Nat} {pl : Bool} {np nf : Nat} (hM : MS sh) (hC : RC V G f l bs pl np nf) {R : hR} {q : hQ} (hq : OKq l bs q) {k : Int32} {D : Nat} (hD : dI q.2.1 q.2.2.1 + 1 ≤ D) (H : ∀ q' : hQ, OKq l bs q' → q.2.2.2.1 + 1 ≤ q'.2.2.2.1 → q'.2.1 = q.2.1 + 1 → q'.2.2.1 = q.2.2.1 → EVq S sh V (dI q'.2.1 q'.2.2.1 + 1) 226 q' (R 1 0 q') ∧ Rl l bs q' (R 1 0 q').2) (H3 : ∀ (k : Int32) (q' : hQ), OKq l bs q' → q.2.2.2.1 + 1 ≤ q'.2.2.2.1 → q.2.1 ≤ q'.2.1 → q'.2.2.1 = q.2.2.1 → WP S D mm_m227 5 [some (.ref 312), some (.int k)] [] (hH sh (fq V q')) (qe (.inl (some (.int (R 4 k q').1))) (hH sh (fq V (R 4 k q').2))) ∧ Rl l bs q' (R 4 k q').2) : WP S D mm_m227 5 [some (.ref 312), some (.int k)] [] (hH sh (fq V q)) (qe (.inl (some (.int (jnQ f l bs R 2 489626271855 1 4 3 k q).1))) (hH sh (fq V (jnQ f l bs R 2 489626271855 1 4 3 k q).2))) ∧ Rl l bs q (jnQ f l bs R 2 489626271855 1 4 3 k q).2 := by
  obtain ⟨hT, hg, hnp, h5, hnf, h5f, hbs, hb, hpl⟩ := hC
  have hq0 := hq
  obtain ⟨q1, q2, q3, q4, q5, m, q6, q7⟩ := hq0
  have hl6 := hT.2.1
  have ha : q.2.2.2.1 ≤ 3000 := by omega
  have hs1 := sk_le f l q.2.2.2.1
  have hs2 : q.2.2.2.1 ≤ sk f l q.2.2.2.1 := skF_ge f l l q.2.2.2.1
  have hw2 := wn_le f l q.2.2.2.1
  have ES := e_sees (S := S) (a := q.2.2.2.1) (b := q.2.2.2.2.1) (w := q.2.2.2.2.2.1) (e := q.2.2.2.2.2.2.1) (ea := q.2.2.2.2.2.2.2) hM (tx_fm (F := q.1) (s := q.2.1) (o := q.2.2.1) hT) ha XS18
  by_cases hs : seB f l q.2.2.2 2 489626271855 = true
  · have hs9 := hs
    unfold seB at hs9
    rw [Bool.and_eq_true] at hs9
    have h0 : er q.2.2.2 = 0 := of_decide_eq_true hs9.1
    have hw := se_wn hs9.2
    have hq60 := q4 h0
    have hq1 := q2 h0
    by_cases hz : er (coP q.2.1 (nxP f l q.2.2.2)) = 0
    · have hz2 := (co_er hz).2
      obtain ⟨r1, hr1⟩ : ∃ r1, R 1 0 (q.1, q.2.1 + 1, q.2.2.1, goP (coP q.2.1 (nxP f l q.2.2.2))) = r1 := ⟨_, rfl⟩
      have H1 := H (q.1, q.2.1 + 1, q.2.2.1, goP (coP q.2.1 (nxP f l q.2.2.2))) ⟨show sk f l q.2.2.2.1 + wn f l q.2.2.2.1 ≤ l + 1 by omega, fun _ => show sk f l q.2.2.2.1 + wn f l q.2.2.2.1 ≤ l by omega, show q.2.1 + 1 ≤ 61 by omega, fun _ => show q.2.1 + 1 ≤ 60 by omega, q5, m, q6, q7⟩ (show q.2.2.2.1 + 1 ≤ sk f l q.2.2.2.1 + wn f l q.2.2.2.1 by omega) rfl rfl
      rw [hr1] at H1
      obtain ⟨E1, g1, g2, g3, g4, g5, g8, g9, g10, m1, g6, g7⟩ := H1
      have g1 : sk f l q.2.2.2.1 + wn f l q.2.2.2.1 ≤ r1.2.2.2.2.1 := g1
      have g2 : q.2.1 + 1 ≤ r1.2.2.1 := g2
      have g3 : r1.2.2.2.1 = q.2.2.1 := g3
      obtain ⟨m2, g11, g12⟩ := mdF_b (e := er r1.2.2.2.2) (kd := 3) (a := k) (c := r1.1) g6 g7
      obtain ⟨E3, g13⟩ := H3 (mkQ bs r1.2 3 k r1.1).1 (mkQ bs r1.2 3 k r1.1).2 ⟨g4, g5, g8, g9, g10, m2, g11, g12⟩ (show q.2.2.2.1 + 1 ≤ r1.2.2.2.2.1 by omega) (show q.2.1 ≤ r1.2.2.1 by omega) g3
      have hR : jnQ f l bs R 2 489626271855 1 4 3 k q = R 4 (mkQ bs r1.2 3 k r1.1).1 (mkQ bs r1.2 3 k r1.1).2 := by
        unfold jnQ
        rw [if_pos hs, if_pos hz, hr1]
      rw [hR]
      refine ⟨?_, Rl.tr ⟨show q.2.2.2.1 ≤ r1.2.2.2.2.1 by omega, show q.2.1 ≤ r1.2.2.1 by omega, g3⟩ g13⟩
      refine wp_aload_n k227_5 rfl rfl ?_
      refine wp_ldcR k227_6 ?_
      refine wp_cv (st2 := []) k227_8 ES (by decide) rfl rfl rfl rfl (by decide) hM.o (by unfold dI at hD; omega) ?_
      refine wp_if_eq_F k227_11 (bI_n0.mpr hs) ?_
      refine wp_aload_n k227_14 rfl rfl ?_
      refine wp_cvn (st2 := []) k227_15 (e_counts (T := (nxP f l q.2.2.2)) hM (by omega)) (by decide) rfl rfl rfl rfl (by decide) hM.o (by unfold dI at hD; omega) ?_
      refine wp_aload_n k227_18 rfl rfl ?_
      refine wp_getI k227_19 (by decide) hM.o rfl ((coP q.2.1 (nxP f l q.2.2.2)).2.2.2.1) rfl ?_
      refine wp_if_eq_T k227_22 hz ?_
      refine wp_aload_n k227_27 rfl rfl ?_
      refine wp_aload_n k227_28 rfl rfl ?_
      refine wp_getI k227_29 (by decide) hM.o rfl (Int32.ofNat ((coP q.2.1 (nxP f l q.2.2.2)).2.1)) rfl ?_
      refine wp_aload_n k227_32 rfl rfl ?_
      refine wp_getI k227_33 (by decide) hM.o rfl (Int32.ofNat ((coP q.2.1 (nxP f l q.2.2.2)).2.2.1)) rfl ?_
      refine wp_iadd k227_36 ?_
      refine wp_cast (i_add _ _) ?_
      refine wp_ps11 k227_37 hM.o (((coP q.2.1 (nxP f l q.2.2.2)).2.1) + ((coP q.2.1 (nxP f l q.2.2.2)).2.2.1)) rfl ?_
      refine wp_aload_n k227_40 rfl rfl ?_
      refine wp_iconst 3 k227_41 (by decide) ?_
      refine wp_iload_n k227_42 rfl rfl ?_
      refine wp_aload_n k227_43 rfl rfl ?_
      refine wp_cv (st2 := [_, _, _]) k227_44 E1 (by decide) rfl rfl rfl rfl (by decide) hM.o (Nat.le_trans (show dI (q.2.1 + 1) q.2.2.1 + 1 ≤ dI q.2.1 q.2.2.1 + 1 by unfold dI; omega) hD) ?_
      refine wp_cv (st2 := []) k227_47 (e_made (T := r1.2.2.2.2) hM hbs hb g6 g7) (by decide) rfl rfl rfl rfl (by decide) hM.o (by unfold dI at hD; omega) ?_
      refine wp_istore_n (L1 := [_, _]) k227_50 rfl rfl ?_
      refine wp_goto k227_51 ?_
      exact E3
    · have hR : jnQ f l bs R 2 489626271855 1 4 3 k q = (0, q.1, q.2.1 + 1, q.2.2.1, coP q.2.1 (nxP f l q.2.2.2)) := by
        unfold jnQ
        rw [if_pos hs, if_neg hz]
      rw [hR]
      refine ⟨?_, hs2, Nat.le_succ _, rfl, show sk f l q.2.2.2.1 ≤ l + 1 by omega, fun h => absurd h hz, show q.2.1 + 1 ≤ 61 by omega, fun h => absurd h hz, q5, m, q6, q7⟩
      refine wp_aload_n k227_5 rfl rfl ?_
      refine wp_ldcR k227_6 ?_
      refine wp_cv (st2 := []) k227_8 ES (by decide) rfl rfl rfl rfl (by decide) hM.o (by unfold dI at hD; omega) ?_
      refine wp_if_eq_F k227_11 (bI_n0.mpr hs) ?_
      refine wp_aload_n k227_14 rfl rfl ?_
      refine wp_cvn (st2 := []) k227_15 (e_counts (T := (nxP f l q.2.2.2)) hM (by omega)) (by decide) rfl rfl rfl rfl (by decide) hM.o (by unfold dI at hD; omega) ?_
      refine wp_aload_n k227_18 rfl rfl ?_
      refine wp_getI k227_19 (by decide) hM.o rfl ((coP q.2.1 (nxP f l q.2.2.2)).2.2.2.1) rfl ?_
      refine wp_if_eq_F k227_22 hz ?_
      refine wp_iconst 0 k227_25 (by decide) ?_
      exact wp_reti k227_26 rfl rfl rfl
  · have hR : jnQ f l bs R 2 489626271855 1 4 3 k q = (k, nxQ f l q) := by
      unfold jnQ
      rw [if_neg hs]
    rw [hR]
    refine ⟨?_, hs2, Nat.le_refl _, rfl, show sk f l q.2.2.2.1 ≤ l + 1 by omega, fun h => ?_, q3, q4, q5, m, q6, q7⟩
    · refine wp_aload_n k227_5 rfl rfl ?_
      refine wp_ldcR k227_6 ?_
      refine wp_cv (st2 := []) k227_8 ES (by decide) rfl rfl rfl rfl (by decide) hM.o (by unfold dI at hD; omega) ?_
      refine wp_if_eq_T k227_11 (bI_0.mpr (Bool.eq_false_iff.mpr hs)) ?_
      refine wp_iload_n k227_54 rfl rfl ?_
      exact wp_reti k227_55 rfl rfl rfl
    · have h9 := q2 h
      show sk f l q.2.2.2.1 ≤ l
      omega
theorem pt_ok {S : ww_S} {sh : List mm_C} {V : hV} {l bs : Nat} (hM : MS sh) {R : hR} {q : hQ} (H : EVq S sh V (dI q.2.1 q.2.2.1 + 0) 225 q (R 0 0 q) ∧ Rl l bs q (R 0 0 q).2) (H3 : ∀ (k : Int32) (q' : hQ), Rl l bs q q' → WP S (dI q.2.1 q.2.2.1 + 0) mm_m226 5 [some (.ref 312), some (.int k)] [] (hH sh (fq V q')) (qe (.inl (some (.int (R 3 k q').1))) (hH sh (fq V (R 3 k q').2))) ∧ Rl l bs q' (R 3 k q').2) : EVq S sh V (dI q.2.1 q.2.2.1 + 1) 226 q (ptQ R q) ∧ Rl l bs q (ptQ R q).2 := by
  obtain ⟨E1, g⟩ := H
  obtain ⟨E3, g3⟩ := H3 (R 0 0 q).1 _ g
  refine ⟨?_, Rl.tr ⟨g.1, g.2.1, g.2.2.1⟩ g3⟩
  refine ev_qe (D := dI q.2.1 q.2.2.1 + 0) P226 rfl ?_
  refine wp_aload_n k226_0 rfl rfl ?_
  refine wp_cv (st2 := []) k226_1 E1 (by decide) rfl rfl rfl rfl (by decide) hM.o (Nat.le_refl _) ?_
  refine wp_istore_n (L1 := [_, _]) k226_4 rfl rfl ?_
  exact E3
theorem al_ok {S : ww_S} {sh : List mm_C} {V : hV} {l bs : Nat} (hM : MS sh) {R : hR} {q : hQ} (H : EVq S sh V (dI q.2.1 q.2.2.1 + 1) 226 q (R 1 0 q) ∧ Rl l bs q (R 1 0 q).2) (H3 : ∀ (k : Int32) (q' : hQ), Rl l bs q q' → WP S (dI q.2.1 q.2.2.1 + 1) mm_m227 5 [some (.ref 312), some (.int k)] [] (hH sh (fq V q')) (qe (.inl (some (.int (R 4 k q').1))) (hH sh (fq V (R 4 k q').2))) ∧ Rl l bs q' (R 4 k q').2) : EVq S sh V (dI q.2.1 q.2.2.1 + 2) 227 q (alQ R q) ∧ Rl l bs q (alQ R q).2 := by
  obtain ⟨E1, g⟩ := H
  obtain ⟨E3, g3⟩ := H3 (R 1 0 q).1 _ g
  refine ⟨?_, Rl.tr ⟨g.1, g.2.1, g.2.2.1⟩ g3⟩
  refine ev_qe (D := dI q.2.1 q.2.2.1 + 1) P227 rfl ?_
  refine wp_aload_n k227_0 rfl rfl ?_
  refine wp_cv (st2 := []) k227_1 E1 (by decide) rfl rfl rfl rfl (by decide) hM.o (Nat.le_refl _) ?_
  refine wp_istore_n (L1 := [_, _]) k227_4 rfl rfl ?_
  exact E3
end M12
