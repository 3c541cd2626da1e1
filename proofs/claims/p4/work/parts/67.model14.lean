section M14
/-! ===== the reference: where the reading is, from step to step ===== -/
def TO (l : Nat) (T : hP) : Prop := T.1 ≤ l + 1 ∧ (er T = 0 → T.1 ≤ l)
theorem to_nx {f : Nat → Int32} {l : Nat} {T : hP} (h : TO l T) : TO l (nxP f l T) := by
  obtain ⟨h1, h2⟩ := h
  have hs := sk_le f l T.1
  refine ⟨show sk f l T.1 ≤ l + 1 by omega, fun q => ?_⟩
  have h3 := h2 q
  show sk f l T.1 ≤ l
  omega
theorem to_mu {l : Nat} {x c : Int32} {T : hP} (hc : c ≠ 0) (h : TO l T) : TO l (muP x c T) := ⟨h.1, fun q => h.2 (mu_er hc q)⟩
theorem to_kn {G f : Nat → Int32} {l base many : Nat} {T : hP} (h : TO l T) : TO l (knP G f l base many T).2 := by
  obtain ⟨g1, g2, g3⟩ := kn_ok (G := G) (f := f) (base := base) (many := many) h.1 h.2
  exact ⟨g2, fun q => (g3 q).2⟩
theorem to_rn {G f : Nat → Int32} {l base many : Nat} {T : hP} (h : TO l T) : TO l (rnP G f l base many T).2 := by
  obtain ⟨g1, g2, g3⟩ := rn_ok (G := G) (f := f) (base := base) (many := many) h.1 h.2
  exact ⟨g2, fun q => (g3 q).2⟩
theorem to_go {f : Nat → Int32} {l : Nat} {T : hP} (h : TO l T) (h0 : er T = 0) : TO l (goP (nxP f l T)) := by
  have h2 := h.2 h0
  have hs := sk_le f l T.1
  have hw := wn_le f l T.1
  exact ⟨show sk f l T.1 + wn f l T.1 ≤ l + 1 by omega, fun _ => show sk f l T.1 + wn f l T.1 ≤ l by omega⟩
theorem to_ta {f : Nat → Int32} {l n N : Nat} {T : hP} (h : TO l T) : TO l (taP f l T n N) := by
  unfold taP
  split
  · rename_i q
    unfold seB at q
    rw [Bool.and_eq_true] at q
    exact to_go h (of_decide_eq_true q.1)
  · exact to_nx h
theorem to_sg {f : Nat → Int32} {l : Nat} {c : Int32} {T : hP} (hc : c ≠ -1) (h : TO l T) : TO l (sgP f l c T) := by
  obtain ⟨g1, g2⟩ := sg_1 (f := f) (l := l) (c := c) (T := T)
  by_cases h0 : er T = 0
  · have h2 := h.2 h0
    have hs := sk_le f l T.1
    refine ⟨?_, fun q => ?_⟩
    · rw [g1 h0]; omega
    · rw [g1 h0]
      have := (sg_er hc q).2
      omega
  · rw [g2 h0]; exact h
theorem to_600 {l : Nat} {T : hP} (h : TO l T) (h6 : l ≤ 600) : T.1 ≤ 1000 := by
  have := h.1
  omega
/-! ===== the reference: readsFormula ===== -/
def fxV (V : hV) (bs : Nat) (b : Bool) : hV := up (up V 312 19 (Int32.ofNat bs)) 312 22 (bI b)
def rfQ (G f : Nat → Int32) (l bs : Nat) (b : Bool) (np nf : Nat) (F : Nat → Int32) (T : hP) : hQ := (rd G f l bs b np nf (4 * (l + 2) + 3) 2 0 (fun k => if k = bs then 0 else F k, 0, 0, T)).2
theorem rf_eq (V : hV) (bs : Nat) (b : Bool) : up (up (up (up (up V 312 19 (Int32.ofNat bs)) 320 bs 0) 312 20 0) 312 21 0) 312 22 (bI b) = fmV (fxV V bs b) (fun k => if k = bs then 0 else V.1 320 k) 0 0 := by
  refine Prod.ext (funext fun a => funext fun k => ?_) rfl
  unfold fxV up fmV
  by_cases h1 : a = 320
  · subst h1; simp
  · by_cases h2 : a = 312
    · subst h2
      by_cases k0 : k = 22
      · subst k0; simp
      · by_cases k1 : k = 21
        · subst k1; simp
        · by_cases k2 : k = 20
          · subst k2; simp
          · by_cases k3 : k = 19
            · subst k3; simp
            · simp [k0, k1, k2, k3]
    · simp [h1, h2]
theorem e_readsFormula {S : ww_S} {sh : List mm_C} {V : hV} {T : hP} (hM : MS sh) {f : Nat → Int32} {l : Nat} (hT : TX V f l) (hO : TO l T) {G : Nat → Int32} (hg : V.1 313 = G) {np nf : Nat} (hnp : G 1 = Int32.ofNat np) (h5 : np ≤ 5) (hnf : G 0 = Int32.ofNat nf) (h5f : nf ≤ 5) {j : Nat} (hj : j ≤ 20) {b : Bool} : EV S 180 228 [.ref 312, .int (Int32.ofNat j), .int (bI b)] (hH sh (pp V T)) (.inl none) (hH sh (fq (fxV V (241 * j) b) (rfQ G f l (241 * j) b np nf (V.1 320) T))) ∧ OKq l (241 * j) (rfQ G f l (241 * j) b np nf (V.1 320) T) := by
  have hC : RC (fxV V (241 * j) b) G f l (241 * j) b np nf := ⟨hT, hg, hnp, h5, hnf, h5f, rfl, by omega, rfl⟩
  have hq : OKq l (241 * j) ((fun k => if k = 241 * j then 0 else V.1 320 k, 0, 0, T) : hQ) := ⟨hO.1, hO.2, Nat.zero_le _, fun _ => Nat.zero_le _, Nat.zero_le _, 0, if_pos rfl, Nat.zero_le _⟩
  have h1 := hO.1
  obtain ⟨E1, g⟩ := (rd_ok (S := S) hM hC (4 * (l + 2) + 3)).2.2.1 0 _ hq (show 4 * (l + 2 - T.1) + 3 ≤ 4 * (l + 2) + 3 by omega)
  refine ⟨?_, g.2.2.2⟩
  refine ev_qe P228 rfl ?_
  refine wp_aload_n k228_0 rfl rfl ?_
  refine wp_sipush 241 k228_1 (by decide) ?_
  refine wp_iload_n k228_4 rfl rfl ?_
  refine wp_imul k228_5 ?_
  refine wp_cast (show (241 : Int32) * Int32.ofNat (j) = Int32.ofNat (241 * j) from (Int32.ofNat_mul 241 _).symm) ?_
  refine wp_putIP k228_6 (by decide) hM.o rfl rfl rfl (by decide) ?_
  refine wp_aload_n k228_9 rfl rfl ?_
  refine wp_getR k228_10 (by decide) hM.o rfl ?_
  refine wp_aload_n k228_13 rfl rfl ?_
  refine wp_getIP k228_14 (by decide) hM.o rfl (by decide) (Int32.ofNat (241 * j)) (up_eq _ _ _ _) ?_
  refine wp_iconst 0 k228_17 (by decide) ?_
  refine wp_iastoreP k228_18 (by decide) (hM.a320) (i_inO (by omega) (by decide)) (241 * j) (i_un (by omega)) (by decide) ?_
  refine wp_aload_n k228_19 rfl rfl ?_
  refine wp_iconst 0 k228_20 (by decide) ?_
  refine wp_putIP k228_21 (by decide) hM.o rfl rfl rfl (by decide) ?_
  refine wp_aload_n k228_24 rfl rfl ?_
  refine wp_iconst 0 k228_25 (by decide) ?_
  refine wp_putIP k228_26 (by decide) hM.o rfl rfl rfl (by decide) ?_
  refine wp_aload_n k228_29 rfl rfl ?_
  refine wp_iload_n k228_30 rfl rfl ?_
  refine wp_putIP k228_31 (by decide) hM.o rfl rfl (by cases b <;> rfl) (by decide) ?_
  rw [rf_eq]
  refine wp_aload_n k228_34 rfl rfl ?_
  refine wp_cv (st2 := []) k228_35 E1 (by decide) rfl rfl rfl rfl (by decide) hM.o (show dI 0 0 + 2 ≤ 179 by decide) ?_
  refine wp_istore_n (L1 := [_, _, _, _]) k228_38 rfl rfl ?_
  exact wp_retn k228_39 rfl rfl
/-! ===== the reference: readsFacts ===== -/
def rfx (set : Int32) (k : Int32 × hP) : Int32 := if er k.2 = 0 ∧ hasB set k.1 = false then 1 else if er k.2 = 0 then 0 else 1
def rfF (G f : Nat → Int32) (l nf : Nat) : Nat → Int32 → hP → Int32 × hP
  | 0, set, T => (set, T)
  | g + 1, set, T => if er T = 0 ∧ 0 < wn f l T.1 then rfF G f l nf g (set ||| if er (muP (rfx set (knP G f l 80 nf (nxP f l T))) 2 (knP G f l 80 nf (nxP f l T)).2) = 0 then 1 <<< ((knP G f l 80 nf (nxP f l T)).1 &&& 31) else 0) (muP (rfx set (knP G f l 80 nf (nxP f l T))) 2 (knP G f l 80 nf (nxP f l T)).2) else (set, nxP f l T)
/-- a known name was read: the reading went on -/
theorem kn_go {G f : Nat → Int32} {l base many : Nat} {T : hP} (h : er (knP G f l base many T).2 = 0) (ht : TO l T) : T.1 + 1 ≤ (knP G f l base many T).2.1 := by
  have h1 : er (rnP G f l base many T).2 = 0 := mu_er (by decide) h
  show T.1 + 1 ≤ (rnP G f l base many T).2.1
  have hs2 : T.1 ≤ sk f l T.1 := skF_ge f l l T.1
  unfold rnP at h1 ⊢
  by_cases h0 : er T = 0
  · rw [if_pos h0] at h1 ⊢
    by_cases hn : nmOK f l T.1 = true
    · rw [if_pos hn]
      have hw : 1 ≤ wn f l T.1 := by
        unfold nmOK at hn
        rw [Bool.and_eq_true] at hn
        exact (of_decide_eq_true hn.1).1
      show T.1 + 1 ≤ sk f l T.1 + wn f l T.1
      omega
    · rw [if_neg hn] at h1
      have h1 : er (muP 0 1 (nxP f l T)) = 0 := h1
      rw [er_mu0 (show er (nxP f l T) = 0 from h0)] at h1
      exact absurd h1 (by decide)
  · rw [if_neg h0] at h1
    exact absurd h1 h0
theorem l_readsFacts {S : ww_S} {sh : List mm_C} {V : hV} (hM : MS sh) {f : Nat → Int32} {l : Nat} (hT : TX V f l) {G : Nat → Int32} (hg : V.1 313 = G) {nf : Nat} (hnf : G 0 = Int32.ofNat nf) (h5 : nf ≤ 5) : ∀ (g : Nat) (set : Int32) (y : Option Value) (T : hP), TO l T → (if er T = 0 then l + 2 - T.1 else 0) + 1 ≤ g → WP S 10 mm_m231 2 [some (.ref 312), some (.int set), y] [] (hH sh (pp V T)) (qe (.inl (some (.int (rfF G f l nf g set T).1))) (hH sh (pp V (rfF G f l nf g set T).2))) ∧ TO l (rfF G f l nf g set T).2 := by
  intro g
  induction g with
  | zero => intro set y T hO hg; omega
  | succ g ih =>
    intro set y T hO hgg
    have ha := to_600 hO hT.2.1
    have EW := e_isWord (S := S) (T := T) hM hT (by omega)
    by_cases c : er T = 0 ∧ 0 < wn f l T.1
    · obtain ⟨k1, hk1⟩ : ∃ k1, knP G f l 80 nf (nxP f l T) = k1 := ⟨_, rfl⟩
      have hO1 := to_nx (f := f) hO
      have EK := e_knownF (S := S) (T := nxP f l T) hM hT (to_600 hO1 hT.2.1) hg hnf h5
      have hO2 := to_kn (G := G) (f := f) (base := 80) (many := nf) hO1
      have hgo := fun h => kn_go (G := G) (f := f) (base := 80) (many := nf) (T := nxP f l T) h hO1
      rw [hk1] at EK hO2 hgo
      have hgo2 : er k1.2 = 0 → T.1 + 1 ≤ k1.2.1 := fun h => Nat.le_trans (Nat.succ_le_succ (skF_ge f l l T.1)) (hgo h)
      have hR : rfF G f l nf (g + 1) set T = rfF G f l nf g (set ||| if er (muP (rfx set k1) 2 k1.2) = 0 then 1 <<< (k1.1 &&& 31) else 0) (muP (rfx set k1) 2 k1.2) := by
        rw [show rfF G f l nf (g + 1) set T = _ from if_pos c, hk1]
      rw [hR]
      have hO3 : TO l (muP (rfx set k1) 2 k1.2) := to_mu (by decide) hO2
      rw [if_pos c.1] at hgg
      obtain ⟨EI, hF⟩ := ih (set ||| if er (muP (rfx set k1) 2 k1.2) = 0 then 1 <<< (k1.1 &&& 31) else 0) (some (.int k1.1)) (muP (rfx set k1) 2 k1.2) hO3 (by
        have := hO.2 c.1
        split
        · rename_i z
          have h9 := hgo2 (mu_er (by decide) z)
          show l + 2 - k1.2.1 + 1 ≤ g
          omega
        · omega)
      refine ⟨?_, hF⟩
      by_cases h1 : er k1.2 = 0
      · by_cases h2 : hasB set k1.1 = true
        · have hx : rfx set k1 = 0 := by
            unfold rfx
            rw [if_neg (by rw [h2]; intro h; exact absurd h.2 (by decide)), if_pos h1]
          rw [hx] at EI ⊢
          have h3 : ¬ er (muP 0 2 k1.2) = 0 := by rw [er_mu0 h1]; decide
          rw [if_neg h3] at EI ⊢
          refine wp_aload_n k231_2 rfl rfl ?_
          refine wp_cv (st2 := []) k231_3 EW (by decide) rfl rfl rfl rfl (by decide) hM.o (by decide) ?_
          refine wp_if_eq_F k231_6 (bI_n0.mpr (decide_eq_true c)) ?_
          refine wp_aload_n k231_9 rfl rfl ?_
          refine wp_iconst 0 k231_10 (by decide) ?_
          refine wp_cv (st2 := []) k231_11 EK (by decide) rfl rfl rfl rfl (by decide) hM.o (by decide) ?_
          refine wp_istore_n (L1 := [_, _, _]) k231_14 rfl rfl ?_
          refine wp_aload_n k231_15 rfl rfl ?_
          refine wp_aload_n k231_16 rfl rfl ?_
          refine wp_getI k231_17 (by decide) hM.o rfl (k1.2.2.2.2.1) rfl ?_
          refine wp_if_ne_F k231_20 h1 ?_
          refine wp_iload_n k231_23 rfl rfl ?_
          refine wp_iload_n k231_24 rfl rfl ?_
          refine wp_cs (st2 := [_]) k231_25 (e_has) (by decide) rfl rfl rfl (by decide) ?_
          refine wp_if_ne_T k231_28 (bI_n0.mpr h2) ?_
          refine wp_iconst 0 k231_35 (by decide) ?_
          refine wp_iconst 2 k231_36 (by decide) ?_
          refine wp_cvn (st2 := []) k231_37 (e_must hM) (by decide) rfl rfl rfl rfl (by decide) hM.o (by decide) ?_
          refine wp_iload_n k231_40 rfl rfl ?_
          refine wp_aload_n k231_41 rfl rfl ?_
          refine wp_getI k231_42 (by decide) hM.o rfl ((muP 0 2 k1.2).2.2.2.1) rfl ?_
          refine wp_if_ne_T k231_45 h3 ?_
          refine wp_iconst 0 k231_54 (by decide) ?_
          refine wp_ior k231_55 ?_
          refine wp_istore_n (L1 := [_, _, _]) k231_56 rfl rfl ?_
          refine wp_goto k231_57 ?_
          exact EI
        · have hx : rfx set k1 = 1 := by
            unfold rfx
            rw [if_pos ⟨h1, Bool.eq_false_iff.mpr h2⟩]
          rw [hx] at EI ⊢
          have h3 : er (muP 1 2 k1.2) = 0 := by rw [er_mu1]; exact h1
          rw [if_pos h3] at EI ⊢
          refine wp_aload_n k231_2 rfl rfl ?_
          refine wp_cv (st2 := []) k231_3 EW (by decide) rfl rfl rfl rfl (by decide) hM.o (by decide) ?_
          refine wp_if_eq_F k231_6 (bI_n0.mpr (decide_eq_true c)) ?_
          refine wp_aload_n k231_9 rfl rfl ?_
          refine wp_iconst 0 k231_10 (by decide) ?_
          refine wp_cv (st2 := []) k231_11 EK (by decide) rfl rfl rfl rfl (by decide) hM.o (by decide) ?_
          refine wp_istore_n (L1 := [_, _, _]) k231_14 rfl rfl ?_
          refine wp_aload_n k231_15 rfl rfl ?_
          refine wp_aload_n k231_16 rfl rfl ?_
          refine wp_getI k231_17 (by decide) hM.o rfl (k1.2.2.2.2.1) rfl ?_
          refine wp_if_ne_F k231_20 h1 ?_
          refine wp_iload_n k231_23 rfl rfl ?_
          refine wp_iload_n k231_24 rfl rfl ?_
          refine wp_cs (st2 := [_]) k231_25 (e_has) (by decide) rfl rfl rfl (by decide) ?_
          refine wp_if_ne_F k231_28 (bI_0.mpr (Bool.eq_false_iff.mpr h2)) ?_
          refine wp_iconst 1 k231_31 (by decide) ?_
          refine wp_goto k231_32 ?_
          refine wp_iconst 2 k231_36 (by decide) ?_
          refine wp_cvn (st2 := []) k231_37 (e_must hM) (by decide) rfl rfl rfl rfl (by decide) hM.o (by decide) ?_
          refine wp_iload_n k231_40 rfl rfl ?_
          refine wp_aload_n k231_41 rfl rfl ?_
          refine wp_getI k231_42 (by decide) hM.o rfl ((muP 1 2 k1.2).2.2.2.1) rfl ?_
          refine wp_if_ne_F k231_45 h3 ?_
          refine wp_iconst 1 k231_48 (by decide) ?_
          refine wp_iload_n k231_49 rfl rfl ?_
          refine wp_ishl k231_50 ?_
          refine wp_goto k231_51 ?_
          refine wp_ior k231_55 ?_
          refine wp_istore_n (L1 := [_, _, _]) k231_56 rfl rfl ?_
          refine wp_goto k231_57 ?_
          exact EI
      · have hx : rfx set k1 = 1 := by
          unfold rfx
          rw [if_neg (fun h => h1 h.1), if_neg h1]
        rw [hx] at EI ⊢
        have h3 : ¬ er (muP 1 2 k1.2) = 0 := by rw [er_mu1]; exact h1
        rw [if_neg h3] at EI ⊢
        refine wp_aload_n k231_2 rfl rfl ?_
        refine wp_cv (st2 := []) k231_3 EW (by decide) rfl rfl rfl rfl (by decide) hM.o (by decide) ?_
        refine wp_if_eq_F k231_6 (bI_n0.mpr (decide_eq_true c)) ?_
        refine wp_aload_n k231_9 rfl rfl ?_
        refine wp_iconst 0 k231_10 (by decide) ?_
        refine wp_cv (st2 := []) k231_11 EK (by decide) rfl rfl rfl rfl (by decide) hM.o (by decide) ?_
        refine wp_istore_n (L1 := [_, _, _]) k231_14 rfl rfl ?_
        refine wp_aload_n k231_15 rfl rfl ?_
        refine wp_aload_n k231_16 rfl rfl ?_
        refine wp_getI k231_17 (by decide) hM.o rfl (k1.2.2.2.2.1) rfl ?_
        refine wp_if_ne_T k231_20 h1 ?_
        refine wp_iconst 1 k231_31 (by decide) ?_
        refine wp_goto k231_32 ?_
        refine wp_iconst 2 k231_36 (by decide) ?_
        refine wp_cvn (st2 := []) k231_37 (e_must hM) (by decide) rfl rfl rfl rfl (by decide) hM.o (by decide) ?_
        refine wp_iload_n k231_40 rfl rfl ?_
        refine wp_aload_n k231_41 rfl rfl ?_
        refine wp_getI k231_42 (by decide) hM.o rfl ((muP 1 2 k1.2).2.2.2.1) rfl ?_
        refine wp_if_ne_T k231_45 h3 ?_
        refine wp_iconst 0 k231_54 (by decide) ?_
        refine wp_ior k231_55 ?_
        refine wp_istore_n (L1 := [_, _, _]) k231_56 rfl rfl ?_
        refine wp_goto k231_57 ?_
        exact EI
    · have hR : rfF G f l nf (g + 1) set T = (set, nxP f l T) := if_neg c
      rw [hR]
      refine ⟨?_, to_nx hO⟩
      refine wp_aload_n k231_2 rfl rfl ?_
      refine wp_cv (st2 := []) k231_3 EW (by decide) rfl rfl rfl rfl (by decide) hM.o (by decide) ?_
      refine wp_if_eq_T k231_6 (bI_0.mpr (decide_eq_false c)) ?_
      refine wp_iload_n k231_60 rfl rfl ?_
      exact wp_reti k231_61 rfl rfl rfl
end M14
