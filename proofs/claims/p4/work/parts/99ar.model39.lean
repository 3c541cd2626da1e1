section M39
/-! ===== the reference: orders are done ===== -/
theorem ke_ne {W : hV} {pm a : Nat} (h1 : a ≠ 312) (h2 : a ≠ 317) : (keV W pm).1 a = W.1 a := by
  unfold keV keW
  refine (funext fun j => up_ne _ _ (Or.inl h1)).trans ((funext fun j => ovr_ne _ _ h2 j).trans ?_)
  split
  · exact (funext fun j => up_ne _ _ (Or.inl h1)).trans (funext fun j => ovr_ne _ _ h2 j)
  · rfl
theorem ke_312 {W : hV} {pm k : Nat} (h : k ≠ 5) : (keV W pm).1 312 k = W.1 312 k := by
  unfold keV keW
  refine (up_ne _ _ (Or.inr h)).trans ((ovr_ne _ _ (by decide) k).trans ?_)
  split
  · exact (up_ne _ _ (Or.inr h)).trans (ovr_ne _ _ (by decide) k)
  · rfl
theorem ke_5 {W : hV} {pm : Nat} : (keV W pm).1 312 5 = Int32.ofNat (keQ pm + 1) := up_eq _ _ _ _
def doG (V : hV) (np rw i : Nat) : Int32 × hV := doF V np rw i (mm_un (V.1 320 (241 * i))) (mm_un (V.1 321 (3 * i)))
def ruL (np rw : Nat) : Nat → Nat → hV → Nat × hV
  | 0, i, V => (i, V)
  | g + 1, i, V => if (doG V np rw i).1 < 0 then (i, (doG V np rw i).2) else ruL np rw g (i + 1) (doG V np rw i).2
theorem e_doG {S : ww_S} {sh : List mm_C} {V : hV} (hM : MS sh) {n nf : Nat} (hn : V.1 313 1 = Int32.ofNat n) (h5 : n ≤ 5) (h5f : nf ≤ 5) {rw : Nat} (hrw : V.1 313 4 = Int32.ofNat rw) (h32 : rw < 32) {i : Nat} (hi : i < 20) (ho : ORD V n nf i) : EV S 12 252 [.ref 312, .int (Int32.ofNat i)] (hH sh V) (.inl (some (.int (doG V n rw i).1))) (hH sh (doG V n rw i).2) ∧ FrA V (doG V n rw i).2 := by
  obtain ⟨kd, h4, hk, hp, hF⟩ := ho
  have hu : mm_un (V.1 321 (3 * i)) = kd := by rw [hk]; exact i_un (by omega)
  unfold doG
  rw [hu]
  refine ⟨?_, fa_do h5 hp⟩
  by_cases h2 : kd ≤ 2
  · obtain ⟨m, hm⟩ := hF h2
    have hum : mm_un (V.1 320 (241 * i)) = m := by rw [hm.1]; exact i_un (by have := hm.2.2.1; omega)
    rw [hum]
    exact e_doesOrder (S := S) hM hn h5 hrw h32 hi hk h4 hp (fun _ => hm.fok h5 h5f)
  · exact e_doesOrder (S := S) hM hn h5 hrw h32 hi hk h4 hp (fun z => absurd z h2)
theorem fa_ru2 {n nf rw c : Nat} (h5 : n ≤ 5) : ∀ (g i : Nat) (V : hV), g + i = c → (∀ i, i < c → ORD V n nf i) → FrA V (ruL n rw g i V).2
  | 0, i, V, _, _ => FrA.r V
  | g + 1, i, V, hg, ho => by
    have hf : FrA V (doG V n rw i).2 := by
      obtain ⟨kd, h4, hk, hp, hF⟩ := ho i (by omega)
      have hu : mm_un (V.1 321 (3 * i)) = kd := by rw [hk]; exact i_un (by omega)
      unfold doG
      rw [hu]
      exact fa_do h5 hp
    rw [ruL.eq_2]
    split
    · exact hf
    · exact hf.t (fa_ru2 h5 g (i + 1) _ (by omega) fun k hk => ord_cg (hf.1 321 (by decide) (by decide)) (hf.1 320 (by decide) (by decide)) (ho k hk))
def rnF (f : Nat → Int32) (l np nf rw pm : Nat) (V : hV) : Int32 × hV := if er (orL f l np nf 22 0 (up V 312 24 0) (akT V)).2.2 = 0 then (Int32.ofNat (ruL np rw (orL f l np nf 22 0 (up V 312 24 0) (akT V)).1 0 (keV (rtE (orL f l np nf 22 0 (up V 312 24 0) (akT V)).2.1 (orL f l np nf 22 0 (up V 312 24 0) (akT V)).2.2) pm)).1, (ruL np rw (orL f l np nf 22 0 (up V 312 24 0) (akT V)).1 0 (keV (rtE (orL f l np nf 22 0 (up V 312 24 0) (akT V)).2.1 (orL f l np nf 22 0 (up V 312 24 0) (akT V)).2.2) pm)).2) else (0, rtE (orL f l np nf 22 0 (up V 312 24 0) (akT V)).2.1 (orL f l np nf 22 0 (up V 312 24 0) (akT V)).2.2)
theorem l_does {S : ww_S} {sh : List mm_C} (hM : MS sh) {n nf rw c : Nat} (h5 : n ≤ 5) (h5f : nf ≤ 5) (h32 : rw < 32) (hc : c ≤ 20) : ∀ (g i : Nat) (V : hV), g + i = c → V.1 313 1 = Int32.ofNat n → V.1 313 4 = Int32.ofNat rw → V.1 312 24 = Int32.ofNat c → (∀ i, i < c → ORD V n nf i) → WP S 191 mm_m254 54 [some (.ref 312), some (.int (Int32.ofNat i))] [] (hH sh V) (qe (.inl (some (.int (Int32.ofNat (ruL n rw g i V).1)))) (hH sh (ruL n rw g i V).2)) := by
  intro g
  induction g with
  | zero =>
    intro i V hi hn hrw h24 ho
    have hi : i = c := by omega
    subst hi
    refine wp_iload_n k254_54 rfl rfl ?_
    refine wp_aload_n k254_55 rfl rfl ?_
    refine wp_getI k254_56 (by decide) hM.o rfl (Int32.ofNat i) h24 ?_
    refine wp_if_icmp_ge_T k254_59 (i_nlt (Nat.le_refl _) (by omega)) ?_
    refine wp_iload_n k254_76 rfl rfl ?_
    exact wp_reti k254_77 rfl rfl rfl
  | succ g ih =>
    intro i V hi hn hrw h24 ho
    obtain ⟨ED, hf⟩ := e_doG (S := S) hM hn h5 h5f hrw h32 (by omega) (ho i (by omega))
    have hF : ruL n rw (g + 1) i V = _ := ruL.eq_2 n rw i V g
    obtain ⟨B, hB⟩ : ∃ B, doG V n rw i = B := ⟨_, rfl⟩
    rw [hB] at ED hf hF
    rw [hF]
    have E2 := ih (i + 1) B.2 (by omega) ((hf.2.1 1 (by omega)).trans hn) ((hf.2.1 4 (by omega)).trans hrw) ((congrFun (hf.1 312 (by decide) (by decide)) 24).trans h24) (fun k hk => ord_cg (hf.1 321 (by decide) (by decide)) (hf.1 320 (by decide) (by decide)) (ho k hk))
    by_cases h0 : B.1 < 0
    · rw [if_pos h0]
      refine wp_iload_n k254_54 rfl rfl ?_
      refine wp_aload_n k254_55 rfl rfl ?_
      refine wp_getI k254_56 (by decide) hM.o rfl (Int32.ofNat c) h24 ?_
      refine wp_if_icmp_ge_F k254_59 (i_lt (by omega) (by omega)) ?_
      refine wp_aload_n k254_62 rfl rfl ?_
      refine wp_iload_n k254_63 rfl rfl ?_
      refine wp_cv (st2 := []) k254_64 ED (by decide) rfl rfl rfl rfl (by decide) hM.o (by decide) ?_
      refine wp_if_lt_T k254_67 h0 ?_
      refine wp_iload_n k254_76 rfl rfl ?_
      exact wp_reti k254_77 rfl (by dsimp only) (by dsimp only)
    · rw [if_neg h0]
      refine wp_iload_n k254_54 rfl rfl ?_
      refine wp_aload_n k254_55 rfl rfl ?_
      refine wp_getI k254_56 (by decide) hM.o rfl (Int32.ofNat c) h24 ?_
      refine wp_if_icmp_ge_F k254_59 (i_lt (by omega) (by omega)) ?_
      refine wp_aload_n k254_62 rfl rfl ?_
      refine wp_iload_n k254_63 rfl rfl ?_
      refine wp_cv (st2 := []) k254_64 ED (by decide) rfl rfl rfl rfl (by decide) hM.o (by decide) ?_
      refine wp_if_lt_F k254_67 h0 ?_
      refine wp_iinc (L1 := [_, _]) 1 k254_70 rfl (by decide) rfl ?_
      refine wp_goto k254_73 ?_
      exact wp_eq E2 (by rw [i_succ]) rfl rfl
theorem e_runOrders {S : ww_S} {sh : List mm_C} {V : hV} (hM : MS sh) {f : Nat → Int32} {l : Nat} (hT : TX V f l) {np nf rw pm : Nat} (hnp : V.1 313 1 = Int32.ofNat np) (h5 : np ≤ 5) (hnf : V.1 313 0 = Int32.ofNat nf) (h5f : nf ≤ 5) (hrw : V.1 313 4 = Int32.ofNat rw) (h32 : rw < 32) (hp : V.1 312 5 = Int32.ofNat pm) (h8 : pm ≤ 8) : EV S 192 254 [.ref 312] (hH sh V) (.inl (some (.int (rnF f l np nf rw pm V).1))) (hH sh (rnF f l np nf rw pm V).2) := by
  have ES := e_starts (S := S) (V := V) (T := selfP V) hM
  obtain ⟨g1, g2, g3, g4⟩ := l_orders (S := S) hM h5 h5f 22 0 (up V 312 24 0) (akT V) (fo_24.tx hT) hnp hnf ⟨Nat.zero_le _, fun _ => Nat.zero_le _⟩ (fun _ => ⟨up_eq _ _ _ _, by decide, fun i hi => absurd hi (Nat.not_lt_zero i)⟩) (by split <;> omega)
  unfold rnF
  obtain ⟨X, hX⟩ : ∃ X, orL f l np nf 22 0 (up V 312 24 0) (akT V) = X := ⟨_, rfl⟩
  rw [hX] at g1 g2 g3 g4 ⊢
  have hTU : TX X.2.1 f l := (fo_24.t g2).tx hT
  have hpU : X.2.1.1 312 5 = Int32.ofNat pm := ((fo_24 (V := V)).t g2).2 5 (by decide) |>.trans hp
  have h313 : X.2.1.1 313 = V.1 313 := ((fo_24 (V := V) (x := 0)).t g2).1 313 (by decide) (by decide) (by decide)
  have EE := e_ends (S := S) (V := X.2.1) (T := X.2.2) hM
  have EP := e_passesP (S := S) (sh := sh) (V := up (up (up X.2.1 312 10 0) 312 16 (er X.2.2)) 312 17 X.2.2.2.2.2.2) (T := X.2.2) hM (b := decide (er X.2.2 = 0))
  obtain ⟨W, hW⟩ : ∃ W, rtE X.2.1 X.2.2 = W := ⟨_, rfl⟩
  have hW2 : pp (up (up (up (up X.2.1 312 10 0) 312 16 (er X.2.2)) 312 17 X.2.2.2.2.2.2) 312 6 (bI (!decide (er X.2.2 = 0)))) X.2.2 = W := hW
  rw [hW2] at EP
  rw [hW]
  have hWp : W.1 312 5 = Int32.ofNat pm := by
    rw [← hW2]
    exact hpU
  have hWn : ∀ a, a ≠ 312 → W.1 a = X.2.1.1 a := fun a h => by
    rw [← hW2, pp_ne _ _ h]
    funext j
    exact (up_ne _ _ (Or.inl h)).trans ((up_ne _ _ (Or.inl h)).trans ((up_ne _ _ (Or.inl h)).trans (up_ne _ _ (Or.inl h))))
  have hW24 : W.1 312 24 = X.2.1.1 312 24 := by
    rw [← hW2]
    rfl
  have EK := e_keeps (S := S) (V := W) hM hWp h8
  refine ev_qe P254 rfl ?_
  refine wp_eq ?_ rfl rfl (congrArg (hH sh) (pp_self V))
  refine wp_aload_n k254_0 rfl rfl ?_
  refine wp_cvn (st2 := []) k254_1 ES (by decide) rfl rfl rfl rfl (by decide) hM.o (by decide) ?_
  refine wp_aload_n k254_4 rfl rfl ?_
  refine wp_iconst 0 k254_5 (by decide) ?_
  refine wp_putIP k254_6 (by decide) hM.o rfl rfl rfl (by decide) ?_
  refine g4 ?_
  by_cases h0 : er X.2.2 = 0
  · rw [if_pos h0]
    obtain ⟨i1, i2, i3⟩ := g3 h0
    have EL := l_does (S := S) hM (nf := nf) h5 h5f h32 i2 X.1 0 (keV W pm) rfl (by rw [ke_ne (by decide) (by decide), hWn 313 (by decide), h313]; exact hnp) (by rw [ke_ne (by decide) (by decide), hWn 313 (by decide), h313]; exact hrw) (by rw [ke_312 (by decide), hW24]; exact i1) (fun i hi => ord_cg (V := X.2.1) (by rw [ke_ne (by decide) (by decide), hWn 321 (by decide)]) (by rw [ke_ne (by decide) (by decide), hWn 320 (by decide)]) (i3 i hi))
    refine wp_aload_n k254_31 rfl rfl ?_
    refine wp_aload_n k254_32 rfl rfl ?_
    refine wp_cv (st2 := [_]) k254_33 EE (by decide) rfl rfl rfl rfl (by decide) hM.o (by decide) ?_
    refine wp_cv (st2 := []) k254_36 EP (by decide) rfl rfl rfl rfl (by decide) hM.o (by decide) ?_
    refine wp_if_ne_T k254_39 (bI_n0.mpr (decide_eq_true h0)) ?_
    refine wp_aload_n k254_44 rfl rfl ?_
    refine wp_aload_n k254_45 rfl rfl ?_
    refine wp_getR k254_46 (by decide) hM.o rfl ?_
    refine wp_cvn (st2 := []) k254_49 EK (by decide) rfl rfl rfl rfl (by decide) hM.o (by decide) ?_
    refine wp_iconst 0 k254_52 (by decide) ?_
    refine wp_istore_n (L1 := [_, _]) k254_53 rfl rfl ?_
    exact EL
  · rw [if_neg h0]
    refine wp_aload_n k254_31 rfl rfl ?_
    refine wp_aload_n k254_32 rfl rfl ?_
    refine wp_cv (st2 := [_]) k254_33 EE (by decide) rfl rfl rfl rfl (by decide) hM.o (by decide) ?_
    refine wp_cv (st2 := []) k254_36 EP (by decide) rfl rfl rfl rfl (by decide) hM.o (by decide) ?_
    refine wp_if_ne_F k254_39 (bI_0.mpr (decide_eq_false h0)) ?_
    refine wp_iconst 0 k254_42 (by decide) ?_
    exact wp_reti k254_43 rfl (by dsimp only) (by dsimp only)
end M39
