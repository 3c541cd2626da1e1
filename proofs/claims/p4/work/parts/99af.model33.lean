section M33
/-! ===== the reference: an order is read ===== -/
theorem oh_val {f : Nat → Int32} {l : Nat} {T : hP} (h : ¬ ohF f l T = -1) : ∃ kd : Nat, kd ≤ 4 ∧ ohF f l T = Int32.ofNat kd := by
  unfold ohF at h ⊢
  split
  · exact ⟨0, by omega, rfl⟩
  · split
    · exact ⟨1, by omega, rfl⟩
    · split
      · exact ⟨2, by omega, rfl⟩
      · split
        · exact ⟨3, by omega, rfl⟩
        · split
          · exact ⟨4, by omega, rfl⟩
          · rename_i a1 a2 a3 a4 a5
            rw [if_neg a1, if_neg a2, if_neg a3, if_neg a4, if_neg a5] at h
            exact absurd rfl h
theorem rpU_24 {V : hV} {j : Nat} {q : hQ} {a b : Int32} : (rpU V j q a b).1.1 312 24 = V.1 312 24 := by
  unfold rpU
  show (up (up (fmV (fxV V (241 * j) false) q.1 q.2.1 q.2.2.1) 321 (3 * j + 1) a) 321 (3 * j + 2) b).1 312 24 = _
  rw [up_ne _ _ (Or.inl (by decide)), up_ne _ _ (Or.inl (by decide))]
  rfl
theorem rpF_24 {f : Nat → Int32} {l np nf j kd : Nat} {V : hV} {T : hP} : (rpF f l np nf j kd V T).1.1 312 24 = V.1 312 24 := by
  unfold rpF
  split
  · exact rpU_24
  · exact rpU_24
  · exact rpU_24
  · exact (up_ne _ _ (Or.inl (by decide))).trans (up_ne _ _ (Or.inl (by decide)))
  · exact (up_ne _ _ (Or.inl (by decide))).trans (up_ne _ _ (Or.inl (by decide)))
def orT (f : Nat → Int32) (l j : Nat) (T : hP) : hP := muP (if j < 20 then 1 else 0) 3 (muP (if ohF f l T = -1 then 0 else 1) 1 (nxP f l T))
def odF (f : Nat → Int32) (l np nf j : Nat) (V : hV) (T : hP) : hV × hP := if er (orT f l j T) = 0 then (up (rpF f l np nf j (mm_un (ohF f l T)) (up V 321 (3 * j) (ohF f l T)) (goP (orT f l j T))).1 312 24 (Int32.ofNat (j + 1)), sgP f l 59 (rpF f l np nf j (mm_un (ohF f l T)) (up V 321 (3 * j) (ohF f l T)) (goP (orT f l j T))).2) else (V, orT f l j T)
theorem rpF_tx {f g : Nat → Int32} {l l2 np nf j kd : Nat} {V : hV} {T : hP} (hT : TX V g l2) : TX (rpF f l np nf j kd V T).1 g l2 := by
  unfold rpF
  split
  · exact hT
  · exact hT
  · exact hT
  · exact hT
  · exact hT
theorem e_readsOrder {S : ww_S} {sh : List mm_C} {V : hV} {T : hP} (hM : MS sh) {f : Nat → Int32} {l : Nat} (hT : TX V f l) (hO : TO l T) {np nf : Nat} (hnp : V.1 313 1 = Int32.ofNat np) (h5 : np ≤ 5) (hnf : V.1 313 0 = Int32.ofNat nf) (h5f : nf ≤ 5) {j : Nat} (hj : V.1 312 24 = Int32.ofNat j) (h20 : j ≤ 20) : EV S 191 251 [.ref 312] (hH sh (pp V T)) (.inl none) (hH sh (pp (odF f l np nf j V T).1 (odF f l np nf j V T).2)) ∧ TO l (odF f l np nf j V T).2 := by
  have EH := e_orderHere (S := S) (V := V) hM hT hO
  obtain ⟨k, hk⟩ : ∃ k, ohF f l T = k := ⟨_, rfl⟩
  have hval := fun h => oh_val (f := f) (l := l) (T := T) h
  rw [hk] at EH hval
  obtain ⟨X, hX⟩ : ∃ X, orT f l j T = X := ⟨_, rfl⟩
  have hX2 : muP (if j < 20 then 1 else 0) 3 (muP (if k = -1 then 0 else 1) 1 (nxP f l T)) = X := by
    rw [← hX]
    unfold orT
    rw [hk]
  have hO1 : TO l X := by rw [← hX2]; exact to_mu (by decide) (to_mu (by decide) (to_nx hO))
  have hW1 : TW l X := by rw [← hX2]; exact tw_mu (by decide) (tw_mu (by decide) (tw_nx hO))
  unfold odF
  rw [hX, hk]
  have go : ∀ {Q}, WP S 190 mm_m251 39 [some (.ref 312), some (.int k)] [] (hH sh (pp V X)) Q → WP S 190 mm_m251 0 [some (.ref 312), none] [] (hH sh (pp V T)) Q := by
    intro Q E
    rw [← hX2] at E
    by_cases c1 : k = -1
    · rw [if_pos c1] at E
      by_cases c2 : j < 20
      · rw [if_pos c2] at E
        refine wp_aload_n k251_0 rfl rfl ?_
        refine wp_cv (st2 := []) k251_1 EH (by decide) rfl rfl rfl rfl (by decide) hM.o (by decide) ?_
        refine wp_istore_n (L1 := [_, _]) k251_4 rfl rfl ?_
        refine wp_aload_n k251_5 rfl rfl ?_
        refine wp_iload_n k251_6 rfl rfl ?_
        refine wp_iconst (-1) k251_7 (by decide) ?_
        refine wp_if_icmp_eq_T k251_8 c1 ?_
        refine wp_iconst 0 k251_15 (by decide) ?_
        refine wp_iconst 1 k251_16 (by decide) ?_
        refine wp_cvn (st2 := []) k251_17 (e_must hM) (by decide) rfl rfl rfl rfl (by decide) hM.o (by decide) ?_
        refine wp_aload_n k251_20 rfl rfl ?_
        refine wp_aload_n k251_21 rfl rfl ?_
        refine wp_getIP k251_22 (by decide) hM.o rfl (by decide) (Int32.ofNat j) hj ?_
        refine wp_bipush 20 k251_25 (by decide) ?_
        refine wp_if_icmp_ge_F k251_27 (i_lt c2 (by decide)) ?_
        refine wp_iconst 1 k251_30 (by decide) ?_
        refine wp_goto k251_31 ?_
        refine wp_iconst 3 k251_35 (by decide) ?_
        refine wp_cvn (st2 := []) k251_36 (e_must hM) (by decide) rfl rfl rfl rfl (by decide) hM.o (by decide) ?_
        exact E
      · rw [if_neg c2] at E
        refine wp_aload_n k251_0 rfl rfl ?_
        refine wp_cv (st2 := []) k251_1 EH (by decide) rfl rfl rfl rfl (by decide) hM.o (by decide) ?_
        refine wp_istore_n (L1 := [_, _]) k251_4 rfl rfl ?_
        refine wp_aload_n k251_5 rfl rfl ?_
        refine wp_iload_n k251_6 rfl rfl ?_
        refine wp_iconst (-1) k251_7 (by decide) ?_
        refine wp_if_icmp_eq_T k251_8 c1 ?_
        refine wp_iconst 0 k251_15 (by decide) ?_
        refine wp_iconst 1 k251_16 (by decide) ?_
        refine wp_cvn (st2 := []) k251_17 (e_must hM) (by decide) rfl rfl rfl rfl (by decide) hM.o (by decide) ?_
        refine wp_aload_n k251_20 rfl rfl ?_
        refine wp_aload_n k251_21 rfl rfl ?_
        refine wp_getIP k251_22 (by decide) hM.o rfl (by decide) (Int32.ofNat j) hj ?_
        refine wp_bipush 20 k251_25 (by decide) ?_
        refine wp_if_icmp_ge_T k251_27 (i_nlt (Nat.not_lt.mp c2) (by omega)) ?_
        refine wp_iconst 0 k251_34 (by decide) ?_
        refine wp_iconst 3 k251_35 (by decide) ?_
        refine wp_cvn (st2 := []) k251_36 (e_must hM) (by decide) rfl rfl rfl rfl (by decide) hM.o (by decide) ?_
        exact E
    · rw [if_neg c1] at E
      by_cases c2 : j < 20
      · rw [if_pos c2] at E
        refine wp_aload_n k251_0 rfl rfl ?_
        refine wp_cv (st2 := []) k251_1 EH (by decide) rfl rfl rfl rfl (by decide) hM.o (by decide) ?_
        refine wp_istore_n (L1 := [_, _]) k251_4 rfl rfl ?_
        refine wp_aload_n k251_5 rfl rfl ?_
        refine wp_iload_n k251_6 rfl rfl ?_
        refine wp_iconst (-1) k251_7 (by decide) ?_
        refine wp_if_icmp_eq_F k251_8 c1 ?_
        refine wp_iconst 1 k251_11 (by decide) ?_
        refine wp_goto k251_12 ?_
        refine wp_iconst 1 k251_16 (by decide) ?_
        refine wp_cvn (st2 := []) k251_17 (e_must hM) (by decide) rfl rfl rfl rfl (by decide) hM.o (by decide) ?_
        refine wp_aload_n k251_20 rfl rfl ?_
        refine wp_aload_n k251_21 rfl rfl ?_
        refine wp_getIP k251_22 (by decide) hM.o rfl (by decide) (Int32.ofNat j) hj ?_
        refine wp_bipush 20 k251_25 (by decide) ?_
        refine wp_if_icmp_ge_F k251_27 (i_lt c2 (by decide)) ?_
        refine wp_iconst 1 k251_30 (by decide) ?_
        refine wp_goto k251_31 ?_
        refine wp_iconst 3 k251_35 (by decide) ?_
        refine wp_cvn (st2 := []) k251_36 (e_must hM) (by decide) rfl rfl rfl rfl (by decide) hM.o (by decide) ?_
        exact E
      · rw [if_neg c2] at E
        refine wp_aload_n k251_0 rfl rfl ?_
        refine wp_cv (st2 := []) k251_1 EH (by decide) rfl rfl rfl rfl (by decide) hM.o (by decide) ?_
        refine wp_istore_n (L1 := [_, _]) k251_4 rfl rfl ?_
        refine wp_aload_n k251_5 rfl rfl ?_
        refine wp_iload_n k251_6 rfl rfl ?_
        refine wp_iconst (-1) k251_7 (by decide) ?_
        refine wp_if_icmp_eq_F k251_8 c1 ?_
        refine wp_iconst 1 k251_11 (by decide) ?_
        refine wp_goto k251_12 ?_
        refine wp_iconst 1 k251_16 (by decide) ?_
        refine wp_cvn (st2 := []) k251_17 (e_must hM) (by decide) rfl rfl rfl rfl (by decide) hM.o (by decide) ?_
        refine wp_aload_n k251_20 rfl rfl ?_
        refine wp_aload_n k251_21 rfl rfl ?_
        refine wp_getIP k251_22 (by decide) hM.o rfl (by decide) (Int32.ofNat j) hj ?_
        refine wp_bipush 20 k251_25 (by decide) ?_
        refine wp_if_icmp_ge_T k251_27 (i_nlt (Nat.not_lt.mp c2) (by omega)) ?_
        refine wp_iconst 0 k251_34 (by decide) ?_
        refine wp_iconst 3 k251_35 (by decide) ?_
        refine wp_cvn (st2 := []) k251_36 (e_must hM) (by decide) rfl rfl rfl rfl (by decide) hM.o (by decide) ?_
        exact E
  by_cases h0 : er X = 0
  · rw [if_pos h0]
    have h9 := h0
    rw [← hX2] at h9
    have h8 : er (muP (if k = -1 then 0 else 1) 1 (nxP f l T)) = 0 := mu_er (by decide) h9
    have h7 : er (nxP f l T) = 0 := mu_er (by decide) h8
    have c2 : j < 20 := by
      refine Nat.lt_of_not_le fun z => ?_
      rw [if_neg (Nat.not_lt.mpr z), er_mu0 h8] at h9
      exact absurd h9 (by decide)
    have c1 : ¬ k = -1 := by
      intro z
      rw [if_pos z, er_mu0 h7] at h8
      exact absurd h8 (by decide)
    obtain ⟨kd, hk4, hkd⟩ := hval c1
    subst hkd
    rw [i_un (by omega)]
    have hv : (up V 321 (3 * j) (Int32.ofNat kd)).1 312 24 = Int32.ofNat j := by rw [up_ne _ _ (Or.inl (by decide))]; exact hj
    have EP := e_readsParts (S := S) (V := up V 321 (3 * j) (Int32.ofNat kd)) (T := goP X) hM hT (to_goW hW1 h0) hnp h5 hnf h5f hv c2 hk4
    have h24 : (rpF f l np nf j kd (up V 321 (3 * j) (Int32.ofNat kd)) (goP X)).1.1 312 24 = Int32.ofNat j := rpF_24.trans hv
    have hTP : ∃ B, rpF f l np nf j kd (up V 321 (3 * j) (Int32.ofNat kd)) (goP X) = B := ⟨_, rfl⟩
    have hTX : TX (rpF f l np nf j kd (up V 321 (3 * j) (Int32.ofNat kd)) (goP X)).1 f l := rpF_tx hT
    obtain ⟨B, hB⟩ := hTP
    rw [hB] at EP h24 hTX ⊢
    obtain ⟨EP, hOB⟩ := EP
    have EG := e_sign (S := S) (V := up B.1 312 24 (Int32.ofNat (j + 1))) (T := B.2) hM hTX (by have := to_600 hOB hT.2.1; omega) (c := 59)
    refine ⟨?_, to_sg (by decide) hOB⟩
    refine ev_qe P251 rfl (go ?_)
    refine wp_aload_n k251_39 rfl rfl ?_
    refine wp_getI k251_40 (by decide) hM.o rfl (X.2.2.2.1) rfl ?_
    refine wp_if_eq_T k251_43 h0 ?_
    refine wp_aload_n k251_47 rfl rfl ?_
    refine wp_aload_n k251_48 rfl rfl ?_
    refine wp_getI k251_49 (by decide) hM.o rfl (Int32.ofNat (X.2.1)) rfl ?_
    refine wp_aload_n k251_52 rfl rfl ?_
    refine wp_getI k251_53 (by decide) hM.o rfl (Int32.ofNat (X.2.2.1)) rfl ?_
    refine wp_iadd k251_56 ?_
    refine wp_cast (i_add _ _) ?_
    refine wp_ps11 k251_57 hM.o (X.2.1 + X.2.2.1) rfl ?_
    refine wp_aload_n k251_60 rfl rfl ?_
    refine wp_getR k251_61 (by decide) hM.o rfl ?_
    refine wp_iconst 3 k251_64 (by decide) ?_
    refine wp_aload_n k251_65 rfl rfl ?_
    refine wp_getIP k251_66 (by decide) hM.o rfl (by decide) (Int32.ofNat j) hj ?_
    refine wp_imul k251_69 ?_
    refine wp_cast (show (3 : Int32) * Int32.ofNat (j) = Int32.ofNat (3 * j) from (Int32.ofNat_mul 3 _).symm) ?_
    refine wp_iload_n k251_70 rfl rfl ?_
    refine wp_iastoreP k251_71 (by decide) (hM.a321) (i_inO (by omega) (by decide)) (3 * j) (i_un (by omega)) (by decide) ?_
    refine wp_aload_n k251_72 rfl rfl ?_
    refine wp_iload_n k251_73 rfl rfl ?_
    refine wp_cvn (st2 := []) k251_74 EP (by decide) rfl rfl rfl rfl (by decide) hM.o (by decide) ?_
    refine wp_aload_n k251_77 rfl rfl ?_
    refine wp_dup k251_78 rfl ?_
    refine wp_getIP k251_79 (by decide) hM.o rfl (by decide) (Int32.ofNat j) h24 ?_
    refine wp_iconst 1 k251_82 (by decide) ?_
    refine wp_iadd k251_83 ?_
    refine wp_cast (show Int32.ofNat (j) + (1 : Int32) = Int32.ofNat (j + 1) from (Int32.ofNat_add _ 1).symm) ?_
    refine wp_putIP k251_84 (by decide) hM.o rfl rfl rfl (by decide) ?_
    refine wp_aload_n k251_87 rfl rfl ?_
    refine wp_bipush 59 k251_88 (by decide) ?_
    refine wp_cvn (st2 := []) k251_90 EG (by decide) rfl rfl rfl rfl (by decide) hM.o (by decide) ?_
    exact wp_retn k251_93 rfl rfl
  · rw [if_neg h0]
    refine ⟨?_, hO1⟩
    refine ev_qe P251 rfl (go ?_)
    refine wp_aload_n k251_39 rfl rfl ?_
    refine wp_getI k251_40 (by decide) hM.o rfl (X.2.2.2.1) rfl ?_
    refine wp_if_eq_F k251_43 h0 ?_
    exact wp_retn k251_46 rfl rfl
end M33
