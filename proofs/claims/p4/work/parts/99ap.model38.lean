section M38
/-! ===== the reference: orders that were read ===== -/
def FrO (V W : hV) : Prop := (∀ a, a ≠ 312 → a ≠ 320 → a ≠ 321 → W.1 a = V.1 a) ∧ (∀ k, k < 19 ∨ 25 ≤ k → W.1 312 k = V.1 312 k)
theorem FrO.r (V : hV) : FrO V V := ⟨fun _ _ _ _ => rfl, fun _ _ => rfl⟩
theorem FrO.t {A B C : hV} (h1 : FrO A B) (h2 : FrO B C) : FrO A C := ⟨fun a z1 z2 z3 => (h2.1 a z1 z2 z3).trans (h1.1 a z1 z2 z3), fun k z => (h2.2 k z).trans (h1.2 k z)⟩
theorem FrO.tx {A B : hV} {f : Nat → Int32} {l : Nat} (h : FrO A B) (hT : TX A f l) : TX B f l := ⟨(h.2 10 (by decide)).trans hT.1, hT.2.1, (h.1 319 (by decide) (by decide) (by decide)).trans hT.2.2⟩
theorem fo_up {V : hV} {k : Nat} {x : Int32} : FrO V (up V 321 k x) := ⟨fun a _ _ h => funext fun j => up_ne _ _ (Or.inl h), fun j _ => up_ne _ _ (Or.inl (by decide))⟩
theorem fo_24 {V : hV} {x : Int32} : FrO V (up V 312 24 x) := ⟨fun a h _ _ => funext fun j => up_ne _ _ (Or.inl h), fun j h => up_ne _ _ (Or.inr (by omega))⟩
theorem fo_fm {V : hV} {bs s o : Nat} {b : Bool} {F : Nat → Int32} : FrO V (fmV (fxV V bs b) F s o) := by
  refine ⟨fun a h1 h2 _ => funext fun j => ?_, fun k h => ?_⟩
  · show (if a = 320 then F j else if a = 312 then _ else (fxV V bs b).1 a j) = _
    rw [if_neg h2, if_neg h1]
    exact (up_ne _ _ (Or.inl h1)).trans (up_ne _ _ (Or.inl h1))
  · show (if k = 20 then _ else if k = 21 then _ else (fxV V bs b).1 312 k) = _
    rw [if_neg (by omega), if_neg (by omega)]
    exact (up_ne _ _ (Or.inr (by omega))).trans (up_ne _ _ (Or.inr (by omega)))
theorem fo_rpU {V : hV} {j : Nat} {q : hQ} {a b : Int32} : FrO V (rpU V j q a b).1 := (fo_fm.t fo_up).t fo_up
theorem fo_rp {f : Nat → Int32} {l np nf j kd : Nat} {V : hV} {T : hP} : FrO V (rpF f l np nf j kd V T).1 := by
  unfold rpF
  split
  · exact fo_rpU
  · exact fo_rpU
  · exact fo_rpU
  · exact fo_up.t fo_up
  · exact fo_up.t fo_up
theorem fo_od {f : Nat → Int32} {l np nf j : Nat} {V : hV} {T : hP} : FrO V (odF f l np nf j V T).1 := by
  unfold odF
  split
  · exact (fo_up.t fo_rp).t fo_24
  · exact FrO.r V
def ORD (V : hV) (np nf i : Nat) : Prop := ∃ kd : Nat, kd ≤ 4 ∧ V.1 321 (3 * i) = Int32.ofNat kd ∧ (kd = 1 ∨ kd = 3 → mm_un (V.1 321 (3 * i + 1)) < 5) ∧ (kd ≤ 2 → ∃ m, TF (V.1 320) (241 * i) np nf m)
theorem ord_keep {V W : hV} {np nf i j : Nat} (hij : i ≠ j) (h1 : ∀ k, k ≠ 3 * j → k ≠ 3 * j + 1 → k ≠ 3 * j + 2 → W.1 321 k = V.1 321 k) (h2 : ∀ k, k < 241 * j ∨ 241 * j + 241 ≤ k → W.1 320 k = V.1 320 k) (h : ORD V np nf i) : ORD W np nf i := by
  obtain ⟨kd, a, b, c, d⟩ := h
  refine ⟨kd, a, (h1 _ (by omega) (by omega) (by omega)).trans b, fun z => ?_, fun z => ?_⟩
  · rw [h1 _ (by omega) (by omega) (by omega)]
    exact c z
  · obtain ⟨m, hm⟩ := d z
    exact ⟨m, hm.cg fun k hk => h2 _ (by omega)⟩
theorem ord_cg {V W : hV} {np nf i : Nat} (h1 : W.1 321 = V.1 321) (h2 : W.1 320 = V.1 320) (h : ORD V np nf i) : ORD W np nf i := by
  unfold ORD
  rw [h1, h2]
  exact h
theorem rpU_320 {V : hV} {j : Nat} {q : hQ} {a b : Int32} : (rpU V j q a b).1.1 320 = q.1 := funext fun k => (up_ne _ _ (Or.inl (by decide))).trans (up_ne _ _ (Or.inl (by decide)))
theorem rpU_321 {V : hV} {j : Nat} {q : hQ} {a b : Int32} {k : Nat} (h1 : k ≠ 3 * j + 1) (h2 : k ≠ 3 * j + 2) : (rpU V j q a b).1.1 321 k = V.1 321 k := (up_ne _ _ (Or.inr h2)).trans (up_ne _ _ (Or.inr h1))
theorem rpU_a {V : hV} {j : Nat} {q : hQ} {a b : Int32} : (rpU V j q a b).1.1 321 (3 * j + 1) = a := (up_ne _ _ (Or.inr (by omega))).trans (up_eq _ _ _ _)
theorem rp_ord {S : ww_S} {sh : List mm_C} {V : hV} {T : hP} (hM : MS sh) {f : Nat → Int32} {l : Nat} (hT : TX V f l) (hO : TO l T) {np nf : Nat} (hnp : V.1 313 1 = Int32.ofNat np) (h5 : np ≤ 5) (hnf : V.1 313 0 = Int32.ofNat nf) (h5f : nf ≤ 5) {j : Nat} (h20 : j < 20) {kd : Nat} (hk : kd ≤ 4) (hk3 : V.1 321 (3 * j) = Int32.ofNat kd) (h : er (rpF f l np nf j kd V T).2 = 0) : ORD (rpF f l np nf j kd V T).1 np nf j ∧ ∀ i, i ≠ j → ORD V np nf i → ORD (rpF f l np nf j kd V T).1 np nf i := by
  have U : ∀ (T2 : hP) (a b : Int32), TO l T2 → kd ≤ 2 → er (rpU V j (rpQ f l np nf j V T2) a b).2 = 0 → (er T2 = 0 → kd = 1 ∨ kd = 3 → mm_un a < 5) → ORD (rpU V j (rpQ f l np nf j V T2) a b).1 np nf j ∧ ∀ i, i ≠ j → ORD V np nf i → ORD (rpU V j (rpQ f l np nf j V T2) a b).1 np nf i := by
    intro T2 a b hO2 hk2 he ha
    obtain ⟨e1, e2, e3⟩ := rf_tree (S := S) hM hT hO2 (G := V.1 313) rfl hnp h5 hnf h5f (j := j) (by omega) (b := false) (F := V.1 320) he
    refine ⟨⟨kd, hk, (rpU_321 (by omega) (by omega)).trans hk3, fun z => ?_, fun _ => ?_⟩, fun i hi ho => ord_keep hi (fun k _ z1 z2 => rpU_321 z1 z2) (fun k hk => ?_) ho⟩
    · rw [rpU_a]
      exact ha e1 z
    · rw [rpU_320]
      exact e2
    · rw [rpU_320]
      exact e3 k hk
  obtain rfl | rfl | rfl | rfl | rfl : kd = 0 ∨ kd = 1 ∨ kd = 2 ∨ kd = 3 ∨ kd = 4 := by omega
  · have hR : rpF f l np nf j 0 V T = rpU V j (rpQ f l np nf j V T) 0 0 := rfl
    rw [hR] at h ⊢
    exact U T 0 0 hO (by decide) h (fun _ z => by omega)
  · obtain ⟨k1, hk1⟩ : ∃ k1, knP (V.1 313) f l 115 np T = k1 := ⟨_, rfl⟩
    have hR : rpF f l np nf j 1 V T = rpU V j (rpQ f l np nf j V k1.2) k1.1 0 := by
      unfold rpF
      rw [hk1]
      rfl
    have hO1 := to_kn (G := V.1 313) (f := f) (base := 115) (many := np) hO
    have hv := fun z => kn_val (G := V.1 313) (f := f) (l := l) (base := 115) (many := np) (T := T) z
    rw [hk1] at hO1 hv
    rw [hR] at h ⊢
    refine U k1.2 k1.1 0 hO1 (by decide) h (fun z _ => ?_)
    obtain ⟨c, c1, c2⟩ := hv z
    rw [c2, i_un (by omega)]
    omega
  · obtain ⟨k1, hk1⟩ : ∃ k1, tdF (V.1 313) f l np (l + 3) 0 T = k1 := ⟨_, rfl⟩
    have hR : rpF f l np nf j 2 V T = rpU V j (rpQ f l np nf j V k1.2) k1.1 0 := by
      unfold rpF
      rw [hk1]
      rfl
    have hO1 := (e_readsTold (S := S) hM hT (G := V.1 313) rfl hnp h5 hO).2
    rw [hk1] at hO1
    rw [hR] at h ⊢
    exact U k1.2 k1.1 0 hO1 (by decide) h (fun _ z => by omega)
  · have hk : er (knP (V.1 313) f l 80 nf (knP (V.1 313) f l 115 np T).2).2 = 0 := h
    obtain ⟨c, c1, c2⟩ := kn_val (kn_er hk)
    have h8 : ∀ k, k ≠ 3 * j + 1 → k ≠ 3 * j + 2 → (rpF f l np nf j 3 V T).1.1 321 k = V.1 321 k := fun k z1 z2 => (up_ne _ _ (Or.inr z2)).trans (up_ne _ _ (Or.inr z1))
    have h9 : (rpF f l np nf j 3 V T).1.1 320 = V.1 320 := funext fun k => (up_ne _ _ (Or.inl (by decide))).trans (up_ne _ _ (Or.inl (by decide)))
    refine ⟨⟨3, by decide, (h8 _ (by omega) (by omega)).trans hk3, fun _ => ?_, fun z => by omega⟩, fun i hi ho => ord_keep hi (fun k _ z1 z2 => h8 k z1 z2) (fun k _ => by rw [h9]) ho⟩
    have h7 : (rpF f l np nf j 3 V T).1.1 321 (3 * j + 1) = (knP (V.1 313) f l 115 np T).1 := (up_ne _ _ (Or.inr (by omega))).trans (up_eq _ _ _ _)
    rw [h7, c2, i_un (by omega)]
    omega
  · have h8 : ∀ k, k ≠ 3 * j + 1 → k ≠ 3 * j + 2 → (rpF f l np nf j 4 V T).1.1 321 k = V.1 321 k := fun k z1 z2 => (up_ne _ _ (Or.inr z2)).trans (up_ne _ _ (Or.inr z1))
    have h9 : (rpF f l np nf j 4 V T).1.1 320 = V.1 320 := funext fun k => (up_ne _ _ (Or.inl (by decide))).trans (up_ne _ _ (Or.inl (by decide)))
    exact ⟨⟨4, by decide, (h8 _ (by omega) (by omega)).trans hk3, fun z => by omega, fun z => by omega⟩, fun i hi ho => ord_keep hi (fun k _ z1 z2 => h8 k z1 z2) (fun k _ => by rw [h9]) ho⟩
theorem od_go {S : ww_S} {sh : List mm_C} {V : hV} {T : hP} (hM : MS sh) {f : Nat → Int32} {l : Nat} (hT : TX V f l) (hO : TO l T) {np nf : Nat} (hnp : V.1 313 1 = Int32.ofNat np) (h5 : np ≤ 5) (hnf : V.1 313 0 = Int32.ofNat nf) (h5f : nf ≤ 5) {j : Nat} (h : er (odF f l np nf j V T).2 = 0) : j < 20 ∧ (odF f l np nf j V T).1.1 312 24 = Int32.ofNat (j + 1) ∧ ORD (odF f l np nf j V T).1 np nf j ∧ ∀ i, i ≠ j → ORD V np nf i → ORD (odF f l np nf j V T).1 np nf i := by
  have hval := fun h => oh_val (f := f) (l := l) (T := T) h
  obtain ⟨k, hk⟩ : ∃ k, ohF f l T = k := ⟨_, rfl⟩
  rw [hk] at hval
  obtain ⟨X, hX⟩ : ∃ X, orT f l j T = X := ⟨_, rfl⟩
  have hX2 : muP (if j < 20 then 1 else 0) 3 (muP (if k = -1 then 0 else 1) 1 (nxP f l T)) = X := by
    rw [← hX]
    unfold orT
    rw [hk]
  have hW1 : TW l X := by rw [← hX2]; exact tw_mu (by decide) (tw_mu (by decide) (tw_nx hO))
  unfold odF at h ⊢
  rw [hX, hk] at h ⊢
  by_cases h0 : er X = 0
  · rw [if_pos h0] at h ⊢
    have h9 := h0
    rw [← hX2] at h9
    have h8 : er (muP (if k = -1 then 0 else 1) 1 (nxP f l T)) = 0 := mu_er (by decide) h9
    have h7 : er (nxP f l T) = 0 := mu_er (by decide) h8
    have c2 : j < 20 := by
      refine Nat.lt_of_not_le fun z => ?_
      rw [if_neg (Nat.not_lt.mpr z), er_mu0 h8] at h9
      exact absurd h9 (by decide)
    have c1 : ¬ k = -1 := by
      intro z
      rw [if_pos z, er_mu0 h7] at h8
      exact absurd h8 (by decide)
    obtain ⟨kd, hk4, hkd⟩ := hval c1
    subst hkd
    rw [i_un (by omega)] at h ⊢
    have h6 : er (rpF f l np nf j kd (up V 321 (3 * j) (Int32.ofNat kd)) (goP X)).2 = 0 := (sg_er (by decide) h).1
    obtain ⟨g1, g2⟩ := rp_ord (S := S) (V := up V 321 (3 * j) (Int32.ofNat kd)) hM hT (to_goW hW1 h0) hnp h5 hnf h5f c2 hk4 (up_eq _ _ _ _) h6
    refine ⟨c2, up_eq _ _ _ _, ord_cg (V := (rpF f l np nf j kd (up V 321 (3 * j) (Int32.ofNat kd)) (goP X)).1) rfl rfl g1, fun i hi ho => ord_cg (V := (rpF f l np nf j kd (up V 321 (3 * j) (Int32.ofNat kd)) (goP X)).1) rfl rfl (g2 i hi (ord_keep hi (fun k z _ _ => up_ne _ _ (Or.inr z)) (fun k _ => up_ne _ _ (Or.inl (by decide))) ho))⟩
  · rw [if_neg h0] at h
    exact absurd h h0
def orL (f : Nat → Int32) (l np nf : Nat) : Nat → Nat → hV → hP → Nat × hV × hP
  | 0, j, V, T => (j, V, T)
  | g + 1, j, V, T => if er T = 0 then (if byt f l (sk f l T.1) = -1 then (j, V, nxP f l T) else orL f l np nf g (j + 1) (odF f l np nf j V (nxP f l T)).1 (odF f l np nf j V (nxP f l T)).2) else (j, V, T)
theorem l_orders {S : ww_S} {sh : List mm_C} (hM : MS sh) {f : Nat → Int32} {l np nf : Nat} (h5 : np ≤ 5) (h5f : nf ≤ 5) : ∀ (g j : Nat) (V : hV) (T : hP), TX V f l → V.1 313 1 = Int32.ofNat np → V.1 313 0 = Int32.ofNat nf → TO l T → (er T = 0 → V.1 312 24 = Int32.ofNat j ∧ j ≤ 20 ∧ ∀ i, i < j → ORD V np nf i) → (if er T = 0 then 21 - j else 0) + 1 ≤ g → TO l (orL f l np nf g j V T).2.2 ∧ FrO V (orL f l np nf g j V T).2.1 ∧ (er (orL f l np nf g j V T).2.2 = 0 → (orL f l np nf g j V T).2.1.1 312 24 = Int32.ofNat (orL f l np nf g j V T).1 ∧ (orL f l np nf g j V T).1 ≤ 20 ∧ ∀ i, i < (orL f l np nf g j V T).1 → ORD (orL f l np nf g j V T).2.1 np nf i) ∧ ∀ {Q}, WP S 191 mm_m254 31 [some (.ref 312), none] [] (hH sh (pp (orL f l np nf g j V T).2.1 (orL f l np nf g j V T).2.2)) Q → WP S 191 mm_m254 9 [some (.ref 312), none] [] (hH sh (pp V T)) Q := by
  intro g
  induction g with
  | zero => intro j V T _ _ _ _ _ hg; omega
  | succ g ih =>
    intro j V T hT hnp hnf hO hj hg
    have hF : orL f l np nf (g + 1) j V T = _ := orL.eq_2 f l np nf j V T g
    by_cases h0 : er T = 0
    · obtain ⟨j1, j2, j3⟩ := hj h0
      rw [if_pos h0] at hg hF
      have EN := e_nextT (S := S) (V := V) (a := T.1) (b := T.2.1) (w := T.2.2.1) (e := er T) (ea := T.2.2.2.2) hM hT (by have := to_600 hO hT.2.1; omega)
      by_cases h1 : byt f l (sk f l T.1) = -1
      · rw [if_pos h1] at hF
        rw [hF]
        refine ⟨to_nx hO, FrO.r V, fun _ => ⟨j1, j2, j3⟩, fun {Q} E => ?_⟩
        refine wp_aload_n k254_9 rfl rfl ?_
        refine wp_getI k254_10 (by decide) hM.o rfl (T.2.2.2.1) rfl ?_
        refine wp_if_ne_F k254_13 h0 ?_
        refine wp_aload_n k254_16 rfl rfl ?_
        refine wp_cv (st2 := []) k254_17 EN (by decide) rfl rfl rfl rfl (by decide) hM.o (by decide) ?_
        refine wp_iconst (-1) k254_20 (by decide) ?_
        refine wp_if_icmp_eq_T k254_21 h1 ?_
        exact E
      · rw [if_neg h1] at hF
        obtain ⟨EO, hO2⟩ := e_readsOrder (S := S) (V := V) (T := nxP f l T) hM hT (to_nx hO) hnp h5 hnf h5f j1 j2
        have hgo := fun z => od_go (S := S) (V := V) (T := nxP f l T) hM hT (to_nx hO) hnp h5 hnf h5f (j := j) z
        have hfo := fo_od (f := f) (l := l) (np := np) (nf := nf) (j := j) (V := V) (T := nxP f l T)
        obtain ⟨B, hB⟩ : ∃ B, odF f l np nf j V (nxP f l T) = B := ⟨_, rfl⟩
        rw [hB] at hF EO hO2 hgo hfo
        have h313 := hfo.1 313 (by decide) (by decide) (by decide)
        have IH := ih (j + 1) B.1 B.2 (hfo.tx hT) (by rw [h313]; exact hnp) (by rw [h313]; exact hnf) hO2 (fun z => by
          obtain ⟨a1, a2, a3, a4⟩ := hgo z
          refine ⟨a2, by omega, fun i hi => ?_⟩
          by_cases e : i = j
          · rw [e]
            exact a3
          · exact a4 i e (j3 i (by omega))) (by
          split
          · rename_i z
            have := (hgo z).1
            omega
          · omega)
        rw [hF]
        obtain ⟨i1, i2, i3, i4⟩ := IH
        refine ⟨i1, hfo.t i2, i3, fun {Q} E => ?_⟩
        refine wp_aload_n k254_9 rfl rfl ?_
        refine wp_getI k254_10 (by decide) hM.o rfl (T.2.2.2.1) rfl ?_
        refine wp_if_ne_F k254_13 h0 ?_
        refine wp_aload_n k254_16 rfl rfl ?_
        refine wp_cv (st2 := []) k254_17 EN (by decide) rfl rfl rfl rfl (by decide) hM.o (by decide) ?_
        refine wp_iconst (-1) k254_20 (by decide) ?_
        refine wp_if_icmp_eq_F k254_21 h1 ?_
        refine wp_aload_n k254_24 rfl rfl ?_
        refine wp_cvn (st2 := []) k254_25 EO (by decide) rfl rfl rfl rfl (by decide) hM.o (by decide) ?_
        refine wp_goto k254_28 ?_
        exact i4 E
    · rw [if_neg h0] at hF
      rw [hF]
      refine ⟨hO, FrO.r V, fun z => absurd z h0, fun {Q} E => ?_⟩
      refine wp_aload_n k254_9 rfl rfl ?_
      refine wp_getI k254_10 (by decide) hM.o rfl (T.2.2.2.1) rfl ?_
      refine wp_if_ne_T k254_13 h0 ?_
      exact E
end M38
