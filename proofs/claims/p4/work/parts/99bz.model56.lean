section M56
/-! ===== the reference: readText keeps it in order ===== -/
def FT (V W : hV) : Prop := (∀ a, a ≠ 312 → a ≠ 313 → a ≠ 318 → a ≠ 320 → W.1 a = V.1 a) ∧ ∀ k, k < 19 ∨ 25 ≤ k → W.1 312 k = V.1 312 k
theorem FT.r (V : hV) : FT V V := ⟨fun _ _ _ _ _ => rfl, fun _ _ => rfl⟩
theorem FT.t {A B C : hV} (h1 : FT A B) (h2 : FT B C) : FT A C := ⟨fun a z1 z2 z3 z4 => (h2.1 a z1 z2 z3 z4).trans (h1.1 a z1 z2 z3 z4), fun k z => (h2.2 k z).trans (h1.2 k z)⟩
theorem ft_up {V : hV} {k : Nat} {x : Int32} : FT V (up V 313 k x) := ⟨fun a _ h _ _ => funext fun j => up_ne _ _ (Or.inl h), fun j _ => up_ne _ _ (Or.inl (by decide))⟩
theorem ft_ov {V : hV} {g : Nat → Option Int32} : FT V (ovr V 313 g) := ⟨fun a _ h _ _ => funext fun j => ovr_ne V g h j, fun j _ => ovr_ne V g (by decide) j⟩
theorem ft_ask {V : hV} {n f b k : Nat} : FT V (askF V n f b k) := ⟨fun a _ _ h _ => funext fun j => askF_ne V n f b h j k, fun j _ => askF_ne V n f b (by decide) j k⟩
theorem ft_lw {V : hV} {q : hQ} : FT V (lwV V q) := ⟨fun a h1 _ _ h4 => funext fun j => lw_fr V q h1 h4, fun k hk => (fo_fm (V := V) (bs := 241 * 20) (b := true) (F := q.1) (s := q.2.1) (o := q.2.2.1)).2 k hk⟩
theorem ft_la {V : hV} {q : hQ} {np : Nat} : FT V (lwA np V q) := ft_lw.t ft_ask
def NMS (g : Nat → Int32) : Prop := ∀ i, i < 5 → (∃ w, w ≤ 6 ∧ g (80 + 7 * i) = Int32.ofNat w) ∧ ∃ w, w ≤ 6 ∧ g (115 + 7 * i) = Int32.ofNat w
theorem NMS.cg {g g' : Nat → Int32} (h : NMS g) (e : ∀ k, 80 ≤ k → k < 150 → g' k = g k) : NMS g' := by
  intro i hi
  obtain ⟨⟨w1, a1, b1⟩, w2, a2, b2⟩ := h i hi
  exact ⟨⟨w1, a1, (e _ (by omega) (by omega)).trans b1⟩, w2, a2, (e _ (by omega) (by omega)).trans b2⟩
theorem nms_slot {V : hV} {f : Nat → Int32} {l b w t s : Nat} (hw : w ≤ 6) (ht : ∃ i, i < 10 ∧ t = 80 + 7 * i) (hs : ∃ i, i < 10 ∧ s = 80 + 7 * i) (h : ∃ z, z ≤ 6 ∧ V.1 313 s = Int32.ofNat z) : ∃ z, z ≤ 6 ∧ (layV V f l b w t).1 313 s = Int32.ofNat z := by
  obtain ⟨i, hi, rfl⟩ := ht
  obtain ⟨j, hj, rfl⟩ := hs
  by_cases e : j = i
  · subst e
    exact ⟨w, hw, ovr_some V (if_pos rfl)⟩
  · have e2 : (layV V f l b w (80 + 7 * i)).1 313 (80 + 7 * j) = V.1 313 (80 + 7 * j) := by
      refine ovr_none V ?_
      unfold layG
      rw [if_neg (by omega), if_neg (by omega)]
    rw [e2]
    exact h
theorem nms_lay {V : hV} {f : Nat → Int32} {l b w t : Nat} (h : NMS (V.1 313)) (hw : w ≤ 6) (ht : ∃ i, i < 10 ∧ t = 80 + 7 * i) : NMS ((layV V f l b w t).1 313) := by
  intro i hi
  obtain ⟨h1, h2⟩ := h i hi
  refine ⟨nms_slot hw ht ⟨i, by omega, rfl⟩ h1, ?_⟩
  have h3 := nms_slot (f := f) (l := l) (b := b) (s := 80 + 7 * (i + 5)) hw ht ⟨i + 5, by omega, rfl⟩ (V := V) (by rw [show 80 + 7 * (i + 5) = 115 + 7 * i by omega]; exact h2)
  rw [show 80 + 7 * (i + 5) = 115 + 7 * i by omega] at h3
  exact h3
theorem lay_out {V : hV} {f : Nat → Int32} {l b w t k : Nat} (h : k < t ∨ t + 1 + w ≤ k) : (layV V f l b w t).1 313 k = V.1 313 k := by
  refine ovr_none V ?_
  unfold layG
  rw [if_neg (by omega), if_neg (by omega)]
theorem ws_n0 : ∀ n : Fin 5, ¬ wsN (n.val + 1) = 0 := by decide
theorem fl_rt {f : Nat → Int32} {l : Nat} (h6 : l ≤ 600) : ∀ (g n : Nat) (V : hV) (T : hP), 6 ≤ g + n → n ≤ 5 → TO l T → NMS (V.1 313) → V.1 313 6 = 0 → V.1 313 1 = 0 → V.1 313 5 = 0 → FT V (flF f l g n V T).1 ∧ (er (flF f l g n V T).2 = 0 → NMS ((flF f l g n V T).1.1 313) ∧ (flF f l g n V T).1.1 313 6 = 0 ∧ (flF f l g n V T).1.1 313 1 = 0 ∧ (flF f l g n V T).1.1 313 5 = 0 ∧ ¬ (flF f l g n V T).1.1 313 2 = 0 ∧ ∃ nf : Nat, 1 ≤ nf ∧ nf ≤ 5 ∧ (flF f l g n V T).1.1 313 0 = Int32.ofNat nf)
  | 0, n, V, T, hg, hn, _, _, _, _, _ => absurd hg (by omega)
  | g + 1, n, V, T, hg, hn, hO, h1, h2, h3, h35 => by
    have hR := to_rn (G := V.1 313) (f := f) (base := 80) (many := n) hO
    have hw := fun h => rn_w (G := V.1 313) (f := f) (base := 80) (many := n) hO h6 h
    obtain ⟨r, hr⟩ : ∃ r, rnP (V.1 313) f l 80 n T = r := ⟨_, rfl⟩
    have hF : flF f l (g + 1) n V T = _ := flF.eq_2 f l n V T g
    rw [hr] at hR hw hF
    obtain ⟨X, hX⟩ : ∃ X, flX n r = X := ⟨_, rfl⟩
    rw [hX] at hF
    have hOX : TO l X := by rw [← hX]; exact to_mu (by decide) (to_mu (by decide) hR)
    rw [hF]
    by_cases h0 : er X = 0
    · rw [if_pos h0]
      have h0' := h0
      rw [← hX] at h0'
      have h0a : er (muP (if r.1 = -1 then 1 else 0) 2 r.2) = 0 := mu_er (by decide) h0'
      have hn5 : n < 5 := by
        refine Nat.lt_of_not_le fun z => ?_
        unfold flX at h0'
        rw [if_neg (Nat.not_lt.mpr z), er_mu0 h0a] at h0'
        exact absurd h0' (by decide)
      have hw6 : X.2.2.1 ≤ 6 := by
        rw [← hX]
        exact (hw (mu_er (by decide) h0a)).2
      have hN : NMS ((flV f l V X n).1 313) := (nms_lay (f := f) (l := l) (b := X.2.1) h1 hw6 ⟨n, by omega, rfl⟩).cg fun k a b => up_ne _ _ (Or.inr (by omega))
      have hfv : FT V (flV f l V X n) := FT.t ft_ov ft_up
      have hs : ∀ k, k ≠ 0 → k < 80 → (flV f l V X n).1 313 k = V.1 313 k := fun k hk h8 => (up_ne _ _ (Or.inr hk)).trans (lay_out (by omega))
      have hs0 : (flV f l V X n).1 313 0 = Int32.ofNat (n + 1) := up_eq _ _ _ _
      by_cases hc : 0 < wn f l X.1
      · rw [if_pos hc]
        by_cases hn4 : n + 1 ≤ 5
        · obtain ⟨a1, a2⟩ := fl_rt h6 g (n + 1) (flV f l V X n) (nxP f l X) (by omega) hn4 (to_nx hOX) hN ((hs 6 (by decide) (by decide)).trans h2) ((hs 1 (by decide) (by decide)).trans h3) ((hs 5 (by decide) (by decide)).trans h35)
          exact ⟨hfv.t a1, a2⟩
        · omega
      · rw [if_neg hc]
        refine ⟨hfv.t ft_up, fun _ => ⟨hN.cg fun k a b => up_ne _ _ (Or.inr (by omega)), (up_ne _ _ (Or.inr (by decide))).trans ((hs 6 (by decide) (by decide)).trans h2), (up_ne _ _ (Or.inr (by decide))).trans ((hs 1 (by decide) (by decide)).trans h3), (up_ne _ _ (Or.inr (by decide))).trans ((hs 5 (by decide) (by decide)).trans h35), ?_, n + 1, by omega, by omega, (up_ne _ _ (Or.inr (by decide))).trans hs0⟩⟩
        rw [up_eq]
        exact ws_n0 ⟨n, hn5⟩
    · rw [if_neg h0]
      exact ⟨FT.r V, fun h => absurd h h0⟩
/-- a state that is being read -/
def RT (V : hV) : Prop := NMS (V.1 313) ∧ V.1 313 6 = 0 ∧ ¬ V.1 313 2 = 0 ∧ (V.1 313 4 = -1 ∨ ∃ rw, rw < 32 ∧ V.1 313 4 = Int32.ofNat rw ∧ hasB (V.1 313 2) (Int32.ofNat rw) = true)
theorem la_313 {V : hV} {q : hQ} {np k : Nat} : (lwA np V q).1 313 k = V.1 313 k := (askF_ne _ _ _ _ (by decide) k _).trans (lw_fr V q (by decide) (by decide))
theorem lw_rt {f : Nat → Int32} {l np nf c b : Nat} {V : hV} {T : hP} (h : RT V) (h4 : V.1 313 4 = -1) : FT V (lwF f l np nf c b V T).1 ∧ (er (lwF f l np nf c b V T).2 = 0 → RT (lwF f l np nf c b V T).1 ∧ (lwF f l np nf c b V T).1.1 313 4 = -1 ∧ (lwF f l np nf c b V T).1.1 313 1 = V.1 313 1 ∧ (lwF f l np nf c b V T).1.1 313 0 = V.1 313 0) := by
  obtain ⟨h1, h2, h3, _⟩ := h
  unfold lwF
  obtain ⟨X, hX⟩ : ∃ X, muP (if c < 6 then 1 else 0) 3 T = X := ⟨_, rfl⟩
  rw [hX]
  obtain ⟨q, hq⟩ : ∃ q, lwQ f l np nf V X = q := ⟨_, rfl⟩
  rw [hq]
  by_cases h0 : er X = 0
  · rw [if_pos h0]
    by_cases hq0 : er q.2.2.2 = 0
    · rw [if_pos hq0]
      refine ⟨(ft_la.t ft_up).t ft_up, fun he => ?_⟩
      have hS : ∀ k, k ≠ 2 → k ≠ 5 → (up (up (lwA np V q) 313 2 (lwW np V q)) 313 5 (Int32.ofNat (c + 1))).1 313 k = V.1 313 k := fun k z1 z2 => (up_ne _ _ (Or.inr z2)).trans ((up_ne _ _ (Or.inr z1)).trans la_313)
      have h22 : (up (up (lwA np V q) 313 2 (lwW np V q)) 313 5 (Int32.ofNat (c + 1))).1 313 2 = lwW np V q := (up_ne _ _ (Or.inr (by decide))).trans (up_eq _ _ _ _)
      have hw : ¬ lwW np V q = 0 := fun z => by
        have he : er (muP (if lwW np V q = 0 then 0 else 1) 4 (beP b q.2.2.2)) = 0 := he
        rw [if_pos z, er_mu0 (show er (beP b q.2.2.2) = 0 from hq0)] at he
        exact absurd he (by decide)
      exact ⟨⟨h1.cg fun k a b => hS k (by omega) (by omega), (hS 6 (by decide) (by decide)).trans h2, by rw [h22]; exact hw, Or.inl ((hS 4 (by decide) (by decide)).trans h4)⟩, (hS 4 (by decide) (by decide)).trans h4, hS 1 (by decide) (by decide), hS 0 (by decide) (by decide)⟩
    · rw [if_neg hq0]
      exact ⟨ft_lw, fun h => absurd h hq0⟩
  · rw [if_neg h0]
    exact ⟨FT.r V, fun h => absurd h h0⟩
theorem pn_rt {f : Nat → Int32} {l nf m : Nat} {V : hV} {T : hP} (h6 : l ≤ 600) (hW : TW l T) (h : RT V) : FT V (pnF f l nf m V T).1 ∧ (er (pnF f l nf m V T).2 = 0 → RT (pnF f l nf m V T).1 ∧ (pnF f l nf m V T).1.1 313 4 = V.1 313 4 ∧ (∃ np : Nat, 1 ≤ np ∧ np ≤ 5 ∧ (pnF f l nf m V T).1.1 313 1 = Int32.ofNat np) ∧ (pnF f l nf m V T).1.1 313 0 = V.1 313 0) := by
  obtain ⟨h1, h2, h3, h4⟩ := h
  have hgo := fun z => pnF_go (f := f) (l := l) (nf := nf) (m := m) (V := V) (T := T) z
  unfold pnF at hgo ⊢
  obtain ⟨X, hX⟩ : ∃ X, muP (if m < 5 then 1 else 0) 3 T = X := ⟨_, rfl⟩
  rw [hX] at hgo ⊢
  have hWX : TW l X := by rw [← hX]; exact tw_mu (by decide) hW
  obtain ⟨Y, hY⟩ : ∃ Y, pnY (V.1 313) f l m X = Y := ⟨_, rfl⟩
  rw [hY] at hgo ⊢
  by_cases h0 : er X = 0
  · rw [if_pos h0] at hgo ⊢
    by_cases hy0 : er Y = 0
    · rw [if_pos hy0] at hgo ⊢
      have hm5 : m < 5 := by
        rw [← hX] at h0
        refine Nat.lt_of_not_le fun z => ?_
        rw [if_neg (Nat.not_lt.mpr z), er_mu0 (mu_er (by decide) h0)] at h0
        exact absurd h0 (by decide)
      have hw6 : Y.2.2.1 ≤ 6 := by
        have hy1 := hy0
        rw [← hY] at hy1 ⊢
        have hy2 : er (rnP (V.1 313) f l 115 m (goP X)).2 = 0 := mu_er (by decide) hy1
        exact (rn_w (to_goW hWX h0) h6 hy2).2
      obtain ⟨K, hK⟩ : ∃ K, pnK f l nf V Y m = K := ⟨_, rfl⟩
      rw [hK] at hgo ⊢
      have hS : ∀ k, k ≠ 1 → k < 80 → (up (up (pnL f l V Y m) 313 (150 + m) K.1) 313 1 (Int32.ofNat (m + 1))).1 313 k = V.1 313 k := fun k z1 z2 => (up_ne _ _ (Or.inr z1)).trans ((up_ne _ _ (Or.inr (by omega))).trans (lay_out (by omega)))
      have hN : NMS ((up (up (pnL f l V Y m) 313 (150 + m) K.1) 313 1 (Int32.ofNat (m + 1))).1 313) := (nms_lay (f := f) (l := l) (b := Y.2.1) h1 hw6 ⟨m + 5, by omega, rfl⟩).cg fun k a b => (up_ne _ _ (Or.inr (by omega))).trans ((up_ne _ _ (Or.inr (by omega))).trans (by rw [show 80 + 7 * (m + 5) = 115 + 7 * m by omega]; rfl))
      refine ⟨(FT.t ft_ov ft_up).t ft_up, fun he => ⟨⟨hN, (hS 6 (by decide) (by decide)).trans h2, ?_, ?_⟩, hS 4 (by decide) (by decide), ⟨m + 1, by omega, by omega, up_eq _ _ _ _⟩, hS 0 (by decide) (by decide)⟩⟩
      · rw [hS 2 (by decide) (by decide)]
        exact h3
      · rw [hS 4 (by decide) (by decide), hS 2 (by decide) (by decide)]
        exact h4
    · rw [if_neg hy0] at hgo ⊢
      exact ⟨FT.r V, fun h => absurd h hy0⟩
  · rw [if_neg h0] at hgo ⊢
    exact ⟨FT.r V, fun h => absurd h h0⟩
theorem or_32 : ∀ (a : Fin 32) (k : Fin 5), ∃ b : Fin 32, Int32.ofNat a.val ||| (1 <<< (Int32.ofNat k.val &&& 31)) = Int32.ofNat b.val := by decide
theorem rf_32 {G f : Nat → Int32} {l nf : Nat} (h5 : nf ≤ 5) : ∀ (g : Nat) (set : Int32) (T : hP), (∃ a, a < 32 ∧ set = Int32.ofNat a) → ∃ a, a < 32 ∧ (rfF G f l nf g set T).1 = Int32.ofNat a
  | 0, set, T, h => h
  | g + 1, set, T, h => by
    have hv := fun z => kn_val (G := G) (f := f) (l := l) (base := 80) (many := nf) (T := nxP f l T) z
    rw [rfF.eq_2]
    split
    · refine rf_32 h5 g _ _ ?_
      split
      · rename_i hc he
        obtain ⟨c, c1, c2⟩ := hv (mu_er (by decide) he)
        obtain ⟨a, ha, rfl⟩ := h
        obtain ⟨b, hb⟩ := or_32 ⟨a, ha⟩ ⟨c, by omega⟩
        rw [c2]
        exact ⟨b.val, b.isLt, hb⟩
      · obtain ⟨a, ha, rfl⟩ := h
        exact ⟨a, ha, by rw [Int32.or_zero]⟩
    · exact h
theorem rl_rt {f : Nat → Int32} {l nf b : Nat} {V : hV} {T : hP} (h5 : nf ≤ 5) (h1 : NMS (V.1 313)) (h2 : V.1 313 6 = 0) (h3 : ¬ V.1 313 2 = 0) : FT V (rlF f l nf b V T).1 ∧ (er (rlF f l nf b V T).2 = 0 → RT (rlF f l nf b V T).1 ∧ (rlF f l nf b V T).1.1 313 1 = V.1 313 1 ∧ (rlF f l nf b V T).1.1 313 0 = V.1 313 0) := by
  have hv := rf_32 (G := V.1 313) (f := f) (l := l) h5 (l + 3) 0 (goP T) ⟨0, by decide, rfl⟩
  unfold rlF
  obtain ⟨K, hK⟩ : ∃ K, rlK f l nf V T = K := ⟨_, rfl⟩
  rw [show rfF (V.1 313) f l nf (l + 3) 0 (goP T) = K from hK] at hv
  rw [hK]
  by_cases h0 : er K.2 = 0
  · rw [if_pos h0]
    refine ⟨ft_up, fun he => ?_⟩
    have hS : ∀ k, k ≠ 4 → (up V 313 4 K.1).1 313 k = V.1 313 k := fun k z => up_ne _ _ (Or.inr z)
    obtain ⟨a, ha, hK1⟩ := hv
    have hb : hasB (V.1 313 2) K.1 = true := by
      have he : er (muP (bI (hasB (V.1 313 2) K.1)) 4 (beP b K.2)) = 0 := he
      refine Decidable.byContradiction fun z => ?_
      rw [Bool.eq_false_iff.mpr z, show bI false = 0 from rfl, er_mu0 (show er (beP b K.2) = 0 from h0)] at he
      exact absurd he (by decide)
    refine ⟨⟨h1.cg fun k x y => hS k (by omega), (hS 6 (by decide)).trans h2, by rw [hS 2 (by decide)]; exact h3, Or.inr ⟨a, ha, (up_eq _ _ _ _).trans hK1, ?_⟩⟩, hS 1 (by decide), hS 0 (by decide)⟩
    rw [hS 2 (by decide), ← hK1]
    exact hb
  · rw [if_neg h0]
    exact ⟨FT.r V, fun h => absurd h h0⟩
theorem lwL_rt {f : Nat → Int32} {l nf np : Nat} : ∀ (g : Nat) (V : hV) (T : hP), RT V → V.1 313 4 = -1 → FT V (lwL f l nf np g V T).1 ∧ (er (lwL f l nf np g V T).2 = 0 → RT (lwL f l nf np g V T).1 ∧ (lwL f l nf np g V T).1.1 313 4 = -1 ∧ (lwL f l nf np g V T).1.1 313 1 = V.1 313 1 ∧ (lwL f l nf np g V T).1.1 313 0 = V.1 313 0)
  | 0, V, T, h, h4 => ⟨FT.r V, fun _ => ⟨h, h4, rfl, rfl⟩⟩
  | g + 1, V, T, h, h4 => by
    have hF : lwL f l nf np (g + 1) V T = _ := lwL.eq_2 f l nf np V T g
    obtain ⟨B, hB⟩ : ∃ B, lwF f l np nf (mm_un (V.1 313 5)) (nlP f l T).2.1 V (nlP f l T) = B := ⟨_, rfl⟩
    obtain ⟨a1, a2⟩ := lw_rt (f := f) (l := l) (np := np) (nf := nf) (c := mm_un (V.1 313 5)) (b := (nlP f l T).2.1) (T := nlP f l T) h h4
    rw [hB] at hF a1 a2
    rw [hF]
    by_cases h0 : er T = 0
    · rw [if_pos h0]
      by_cases hn : nlB f l T 3 2195162545188048470124 = true
      · rw [if_pos hn]
        by_cases hb0 : er B.2 = 0
        · obtain ⟨r1, r2, r3, r4⟩ := a2 hb0
          obtain ⟨b1, b2⟩ := lwL_rt g B.1 B.2 r1 r2
          refine ⟨a1.t b1, fun he => ?_⟩
          obtain ⟨c1, c2, c3, c4⟩ := b2 he
          exact ⟨c1, c2, c3.trans r3, c4.trans r4⟩
        · have hst : lwL f l nf np g B.1 B.2 = (B.1, B.2) := by
            cases g with
            | zero => rfl
            | succ g => rw [lwL.eq_2, if_neg hb0]
          rw [hst]
          exact ⟨a1, fun he => absurd he hb0⟩
      · rw [if_neg hn]
        exact ⟨FT.r V, fun _ => ⟨h, h4, rfl, rfl⟩⟩
    · rw [if_neg h0]
      exact ⟨FT.r V, fun h => absurd h h0⟩
theorem plL_er {f : Nat → Int32} {l nf : Nat} {V : hV} {T : hP} (h0 : ¬ er T = 0) : ∀ g, plL f l nf g V T = (V, T)
  | 0 => rfl
  | g + 1 => by
    rw [plL.eq_2, if_neg h0]
    unfold enF
    rw [if_neg h0]
theorem en_er {f : Nat → Int32} {l : Nat} {T : hP} (h : er (enF f l T) = 0) : er T = 0 := by
  refine Decidable.byContradiction fun z => ?_
  unfold enF at h
  rw [if_neg z] at h
  exact z h
theorem FT.tx {A B : hV} {f : Nat → Int32} {l : Nat} (h : FT A B) (hT : TX A f l) : TX B f l := ⟨(h.2 10 (by decide)).trans hT.1, hT.2.1, (h.1 319 (by decide) (by decide) (by decide) (by decide)).trans hT.2.2⟩
theorem pl_rt (S : ww_S) {sh : List mm_C} (hM : MS sh) {f : Nat → Int32} {l nf : Nat} (h6 : l ≤ 600) (h5 : nf ≤ 5) : ∀ (g : Nat) (V : hV) (T : hP), TX V f l → V.1 313 0 = Int32.ofNat nf → (∃ m : Nat, m ≤ 5 ∧ V.1 313 1 = Int32.ofNat m) → TO l T → RT V → FT V (plL f l nf g V T).1 ∧ ((∃ np : Nat, 1 ≤ np ∧ np ≤ 5 ∧ V.1 313 1 = Int32.ofNat np) → er (plL f l nf g V T).2 = 0 → RT (plL f l nf g V T).1 ∧ (∃ np : Nat, 1 ≤ np ∧ np ≤ 5 ∧ (plL f l nf g V T).1.1 313 1 = Int32.ofNat np) ∧ (plL f l nf g V T).1.1 313 0 = V.1 313 0)
  | 0, V, T, _, _, _, _, h => ⟨FT.r V, fun hp _ => ⟨h, hp, rfl⟩⟩
  | g + 1, V, T, hTX, hnf, hnp, hO, h => by
    obtain ⟨m, hm5, hm⟩ := hnp
    have hF : plL f l nf (g + 1) V T = _ := plL.eq_2 f l nf V T g
    by_cases h0 : er T = 0
    · rw [if_pos h0] at hF
      by_cases hb : byt f l (sk f l T.1) = -1
      · rw [if_pos hb] at hF
        rw [hF]
        exact ⟨FT.r V, fun hp _ => ⟨h, hp, rfl⟩⟩
      · rw [if_neg hb] at hF
        obtain ⟨X, hX⟩ : ∃ X, sgP f l 59 (nxP f l T) = X := ⟨_, rfl⟩
        rw [hX] at hF
        have hOX : TO l X := by rw [← hX]; exact to_sg (by decide) (to_nx hO)
        by_cases hs : seB f l X 6 160765180144170663739740739734469041235173086068848 = true
        · rw [if_pos hs] at hF
          obtain ⟨a1, a2⟩ := pn_rt (f := f) (nf := nf) (m := mm_un (V.1 313 1)) (T := nxP f l X) h6 (tw_nx hOX) h
          have hOB := (e_personLine (S := S) hM hTX hnf h5 hm hm5 (to_nx (f := f) hOX) (tw_nx (f := f) hOX)).2.1
          have hu : mm_un (V.1 313 1) = m := by rw [hm]; exact i_un (by omega)
          rw [hu] at hF a1 a2
          obtain ⟨B, hB⟩ : ∃ B, pnF f l nf m V (nxP f l X) = B := ⟨_, rfl⟩
          rw [hB] at hF a1 a2 hOB
          rw [hF]
          by_cases hb0 : er B.2 = 0
          · obtain ⟨r1, r2, r3, r4⟩ := a2 hb0
            obtain ⟨b1, b2⟩ := pl_rt S hM h6 h5 g B.1 B.2 (a1.tx hTX) (r4.trans hnf) (by obtain ⟨np, _, p2, p3⟩ := r3; exact ⟨np, p2, p3⟩) hOB r1
            refine ⟨a1.t b1, fun _ he => ?_⟩
            obtain ⟨c1, c2, c3⟩ := b2 r3 he
            exact ⟨c1, c2, c3.trans r4⟩
          · rw [plL_er hb0]
            exact ⟨a1, fun _ he => absurd he hb0⟩
        · rw [if_neg hs] at hF
          obtain ⟨P, hP⟩ : ∃ P, reP f l X = P := ⟨_, rfl⟩
          rw [hP] at hF
          by_cases hr : er P = 0
          · rw [if_pos hr] at hF
            obtain ⟨a1, a2⟩ := rl_rt (f := f) (l := l) (nf := nf) (b := P.2.1) (V := up V 313 4 (-1)) (T := P) h5 (h.1.cg fun k x y => up_ne _ _ (Or.inr (by omega))) ((up_ne _ _ (Or.inr (by decide))).trans h.2.1) (by rw [up_ne _ _ (Or.inr (by decide))]; exact h.2.2.1)
            have u1 : (up V 313 4 (-1)).1 313 1 = V.1 313 1 := up_ne _ _ (Or.inr (by decide))
            have u0 : (up V 313 4 (-1)).1 313 0 = V.1 313 0 := up_ne _ _ (Or.inr (by decide))
            have fu : FT V (up V 313 4 (-1)) := ft_up
            rw [u1, u0] at a2
            obtain ⟨R, hR⟩ : ∃ R, rlF f l nf P.2.1 (up V 313 4 (-1)) P = R := ⟨_, rfl⟩
            rw [hR] at hF a1 a2
            rw [hF]
            refine ⟨fu.t a1, fun hp he => ?_⟩
            have he : er (enF f l R.2) = 0 := he
            obtain ⟨b1, b2, b3⟩ := a2 (en_er he)
            obtain ⟨np, p1, p2, p3⟩ := hp
            exact ⟨b1, ⟨np, p1, p2, b2.trans p3⟩, b3⟩
          · rw [if_neg hr] at hF
            rw [hF]
            refine ⟨FT.r V, fun _ he => ?_⟩
            have he : er P = 0 := he
            exact absurd he hr
    · rw [if_neg h0] at hF
      rw [hF]
      exact ⟨FT.r V, fun _ he => absurd (en_er he) h0⟩
theorem rs_rt (S : ww_S) {sh : List mm_C} (hM : MS sh) {f : Nat → Int32} {l nf : Nat} {V : hV} {T : hP} (hR : RS V f l nf 0 0) (hO : TO l T) (h : RT V) (h4 : V.1 313 4 = -1) : FT V (rsF f l nf V T).1 ∧ (er (rsF f l nf V T).2 = 0 → RT (rsF f l nf V T).1 ∧ (∃ np : Nat, 1 ≤ np ∧ np ≤ 5 ∧ (rsF f l nf V T).1.1 313 1 = Int32.ofNat np) ∧ (rsF f l nf V T).1.1 313 0 = V.1 313 0) := by
  have h6 := hR.1.2.1
  have h5 := hR.2.2.1
  obtain ⟨_, ⟨c, hRX⟩, hOX, _⟩ := l_laws (S := S) hM (y := none) 9 0 V T hR hO (by split <;> omega)
  obtain ⟨a1, a2⟩ := lwL_rt (f := f) (l := l) (nf := nf) (np := 0) 9 V T h h4
  unfold rsF
  obtain ⟨X, hX⟩ : ∃ X, lwL f l nf 0 9 V T = X := ⟨_, rfl⟩
  rw [hX] at hRX hOX a1 a2 ⊢
  by_cases h0 : er X.2 = 0
  · rw [if_pos h0]
    obtain ⟨r1, r2, r3, r4⟩ := a2 h0
    obtain ⟨Y, hY⟩ : ∃ Y, peP f l X.2 = Y := ⟨_, rfl⟩
    rw [hY]
    have hWY : TW l Y := by rw [← hY]; exact tw_mu (by decide) (tw_nx hOX)
    have hOY : TO l Y := by rw [← hY]; exact to_mu (by decide) (to_nx hOX)
    by_cases hy : er Y = 0
    · rw [if_pos hy]
      obtain ⟨b1, b2⟩ := pn_rt (f := f) (nf := nf) (m := 0) (T := Y) h6 hWY r1
      have hOB := (e_personLine (S := S) hM hRX.1 hRX.2.1 h5 hRX.2.2.2.1 (by decide) hOY hWY).2.1
      obtain ⟨B, hB⟩ : ∃ B, pnF f l nf 0 X.1 Y = B := ⟨_, rfl⟩
      rw [hB] at b1 b2 hOB ⊢
      by_cases hb0 : er B.2 = 0
      · obtain ⟨s1, s2, s3, s4⟩ := b2 hb0
        obtain ⟨c1, c2⟩ := pl_rt S hM h6 h5 8 B.1 B.2 (b1.tx hRX.1) (s4.trans hRX.2.1) (by obtain ⟨np, _, p2, p3⟩ := s3; exact ⟨np, p2, p3⟩) hOB s1
        refine ⟨(a1.t b1).t c1, fun he => ?_⟩
        obtain ⟨d1, d2, d3⟩ := c2 s3 he
        exact ⟨d1, d2, d3.trans (s4.trans r4)⟩
      · rw [plL_er hb0]
        exact ⟨a1.t b1, fun he => absurd he hb0⟩
    · rw [if_neg hy, plL_er hy]
      exact ⟨a1, fun he => absurd he hy⟩
  · rw [if_neg h0]
    exact ⟨a1, fun he => absurd he h0⟩
theorem low_ok {x : Int32} : ∀ (f k : Nat), f + k = 32 → (∃ j, k ≤ j ∧ j < 32 ∧ hasB x (Int32.ofNat j) = true) → ∃ j, j < 32 ∧ lowF x f k = Int32.ofNat j ∧ hasB x (Int32.ofNat j) = true
  | 0, k, hk, ⟨j, h1, h2, _⟩ => absurd h1 (by omega)
  | f + 1, k, hk, ⟨j, h1, h2, h3⟩ => by
    by_cases c : hasB x (Int32.ofNat k) = true
    · exact ⟨k, by omega, lowF_t c, c⟩
    · rw [lowF_f c]
      refine low_ok f (k + 1) (by omega) ⟨j, ?_, h2, h3⟩
      by_cases e : j = k
      · subst e
        exact absurd h3 c
      · omega
theorem hb_ex {x : Int32} (h : ¬ x = 0) : ∃ j, j < 32 ∧ hasB x (Int32.ofNat j) = true := by
  refine Decidable.byContradiction fun z => h (hb_ext fun k hk => ?_)
  rw [hb_0 hk]
  exact Bool.eq_false_iff.mpr fun q => z ⟨k, hk, q⟩
theorem beg_so {W : hV} {nf np : Nat} (h : RT W) (h0 : W.1 313 0 = Int32.ofNat nf) (hf1 : 1 ≤ nf) (hf5 : nf ≤ 5) (h1 : W.1 313 1 = Int32.ofNat np) (hp1 : 1 ≤ np) (hp5 : np ≤ 5) : SO ((rtH W).1 313) := by
  obtain ⟨n1, n2, n3, n4⟩ := h
  have hu : mm_un (W.1 313 1) = np := by rw [h1]; exact i_un (by omega)
  have eH : ∀ k, k ≠ 4 → (rtH W).1 313 k = (rtG W).1 313 k := fun k hk => (up_ne _ _ (Or.inl (by decide))).trans (up_ne _ _ (Or.inr hk))
  have eG : ∀ k, k < 2 ∨ (4 ≤ k ∧ k < 160) → (rtG W).1 313 k = W.1 313 k := fun k hk => by
    refine ovr_none W ?_
    unfold begH begG
    rw [if_neg (by omega), if_neg (by omega), if_neg (by omega), if_neg (by omega)]
  have e2 : (rtG W).1 313 2 = W.1 313 2 := ovr_some W (by
    unfold begH begG
    rw [if_neg (by omega), if_pos rfl])
  have e3 : (rtG W).1 313 3 = Int32.ofNat (cnt (W.1 313 2)) := ovr_some W (by
    unfold begH begG
    rw [if_neg (by omega), if_neg (by omega), if_pos rfl])
  have eQ : ∀ k, 320 ≤ k → k ≤ 324 → (rtG W).1 313 k = if k = 320 then 1 else 0 := fun k a b => ovr_some W (by
    unfold begH
    rw [if_pos ⟨a, b⟩])
  have eA : ∀ p w, p < np → w < 32 → (rtG W).1 313 (160 + 32 * p + w) = begR W p w &&& W.1 313 2 := fun p w hp hw => by
    refine ovr_some W ?_
    unfold begH begG
    rw [if_neg (by omega), if_neg (by omega), if_neg (by omega), if_pos ⟨by omega, by rw [hu]; omega⟩, show (160 + 32 * p + w - 160) / 32 = p by omega, show (160 + 32 * p + w - 160) % 32 = w by omega]
  have e4 : (rtH W).1 313 4 = (if W.1 313 4 = -1 then lowest ((rtG W).1 313 2) else W.1 313 4) := (up_ne _ _ (Or.inl (by decide))).trans (up_eq _ _ _ _)
  have hreal : ∃ rw, rw < 32 ∧ (rtH W).1 313 4 = Int32.ofNat rw ∧ hasB (W.1 313 2) (Int32.ofNat rw) = true := by
    rw [e4, e2]
    rcases n4 with h | ⟨rw, a, b, c⟩
    · rw [if_pos h]
      obtain ⟨j, j1, j2⟩ := hb_ex n3
      exact low_ok 32 0 rfl ⟨j, Nat.zero_le _, j1, j2⟩
    · refine ⟨rw, a, ?_, c⟩
      rw [b]
      refine if_neg fun z => ?_
      have := congrArg mm_un z
      rw [i_un (by omega)] at this
      have e : mm_un (-1) = 4294967295 := rfl
      omega
  obtain ⟨rw, hr1, hr2, hr3⟩ := hreal
  have hcnt : 1 ≤ cnt (W.1 313 2) := by
    have := cnt_clear n3
    omega
  have hnd : Nd ((rtH W).1 313) 320 np nf 0 := ⟨0, 0, 0, by rw [eH _ (by decide), eQ _ (by decide) (by decide)]; rfl, by rw [eH _ (by decide), eQ _ (by decide) (by decide)]; rfl, by rw [eH _ (by decide), eQ _ (by decide) (by decide)]; rfl, by decide, fun _ => by omega, fun z => by omega, fun z => by omega, fun z => by omega, fun _ _ _ _ => rfl⟩
  refine ⟨nf, np, rw, 0, 1, cnt (W.1 313 2), ?_, hf5, ?_, hp1, hp5, hr2, hr1, ?_, Nat.zero_le _, ?_, hcnt, cnt_le _, ⟨?_, Nat.le_refl _, by decide, fun k hk => ?_, 1, Or.inl ⟨?_, rfl⟩⟩, fun i hi => ?_, ?_, fun p w hp hw hh => ?_⟩
  · rw [eH 0 (by decide), eG 0 (by omega)]; exact h0
  · rw [eH 1 (by decide), eG 1 (by omega)]; exact h1
  · rw [eH 6 (by decide), eG 6 (by omega)]; exact n2
  · rw [eH 3 (by decide)]; exact e3
  · rw [eH 320 (by decide), eQ 320 (by decide) (by decide)]; rfl
  · obtain rfl : k = 0 := by omega
    exact hnd
  · rw [eH _ (by decide), eQ _ (by decide) (by decide)]; rfl
  · rw [eH _ (by omega), eH _ (by omega), eG _ (by omega), eG _ (by omega)]
    exact n1 i hi
  · rw [eH 2 (by decide), e2, hr2]; exact hr3
  · rw [eH 2 (by decide), e2] at hh
    rw [eH _ (by omega), eA p w hp hw, hb_and _ _ hw, hh, Bool.and_true]
    unfold begR
    rw [hb_o32 hw, Int32.xor_self, Int32.zero_and]
    exact decide_eq_true rfl
theorem ze_313 {V : hV} {k : Nat} (h : k < 564) : (rt0 V).1 313 k = 0 := ovr_some _ (if_pos h)
theorem r_readText {S : ww_S} {sh : List mm_C} {V : hV} (hM : MS sh) (hI : RI V) : EVQ S 195 236 [.ref 312] (hH sh V) (rP sh V 0) := by
  have hI0 := hI
  obtain ⟨l, pm, ol, bq, g1, g2, g3, g4, g5, g6, g7, g8, g9, g10⟩ := hI
  have hT : TX V (V.1 319) l := ⟨g1, g2, rfl⟩
  have E := e_readText (S := S) hM hT
  have eZ : ∀ a, a ≠ 313 → a ≠ 315 → (rt0 V).1 a = V.1 a := fun a z1 z2 => (funext fun j => ovr_ne _ _ z1 j).trans (funext fun j => ovr_ne V _ z2 j)
  have hT0 : TX (rt0 V) (V.1 319) l := ⟨(congrFun (eZ 312 (by decide) (by decide)) 10).trans g1, g2, (eZ 319 (by decide) (by decide))⟩
  have hTt : TO l (rtT V) := ⟨Nat.zero_le _, fun _ => Nat.zero_le _⟩
  have hN0 : NMS ((rt0 V).1 313) := fun i hi => ⟨⟨0, by decide, ze_313 (by omega)⟩, 0, by decide, ze_313 (by omega)⟩
  obtain ⟨fA, rA⟩ := fl_rt (f := V.1 319) g2 6 0 (rt0 V) (muP (bI (seB (V.1 319) l (rtT V) 5 39132472205098390151768970679218299994214)) 1 (taP (V.1 319) l (rtT V) 5 39132472205098390151768970679218299994214)) (by decide) (by decide) (to_mu (by decide) (to_ta hTt)) hN0 (ze_313 (by decide)) (ze_313 (by decide)) (ze_313 (by decide))
  have hOA := (e_factsLine (S := S) (V := rt0 V) (T := rtT V) hM hT0 (ze_313 (by decide)) hTt).2.1
  have hA : flF (V.1 319) l 6 0 (rt0 V) (muP (bI (seB (V.1 319) l (rtT V) 5 39132472205098390151768970679218299994214)) 1 (taP (V.1 319) l (rtT V) 5 39132472205098390151768970679218299994214)) = rtA (V.1 319) l V := rfl
  rw [hA] at fA rA hOA
  -- what was read, and what it leaves as it is
  have hB : FT (rt0 V) (rtB (V.1 319) l V).1 ∧ (er (rtB (V.1 319) l V).2 = 0 → RT (rtB (V.1 319) l V).1 ∧ (∃ np : Nat, 1 ≤ np ∧ np ≤ 5 ∧ (rtB (V.1 319) l V).1.1 313 1 = Int32.ofNat np) ∧ ∃ nf : Nat, 1 ≤ nf ∧ nf ≤ 5 ∧ (rtB (V.1 319) l V).1.1 313 0 = Int32.ofNat nf) := by
    unfold rtB rtA1
    obtain ⟨A, hAA⟩ : ∃ A, rtA (V.1 319) l V = A := ⟨_, rfl⟩
    rw [hAA] at fA rA hOA ⊢
    by_cases h0 : er A.2 = 0
    · rw [if_pos h0]
      obtain ⟨r1, r2, r3, r35, r4, nf, f1, f5, f0⟩ := rA h0
      have hS : ∀ k, k ≠ 4 → (up A.1 313 4 (-1)).1 313 k = A.1.1 313 k := fun k z => up_ne _ _ (Or.inr z)
      have hRT : RT (up A.1 313 4 (-1)) := ⟨r1.cg fun k x y => hS k (by omega), (hS 6 (by decide)).trans r2, by rw [hS 2 (by decide)]; exact r4, Or.inl (up_eq _ _ _ _)⟩
      have hu : mm_un ((up A.1 313 4 (-1)).1 313 0) = nf := by rw [hS 0 (by decide), f0]; exact i_un (by omega)
      rw [hu]
      have h5z : (up A.1 313 4 (-1)).1 313 5 = Int32.ofNat 0 := (hS 5 (by decide)).trans r35
      obtain ⟨b1, b2⟩ := rs_rt S hM (f := V.1 319) (l := l) (nf := nf) (V := up A.1 313 4 (-1)) (T := A.2) ⟨(fA.t ft_up).tx hT0, (hS 0 (by decide)).trans f0, f5, (hS 1 (by decide)).trans r3, by decide, h5z, by decide⟩ hOA hRT (up_eq _ _ _ _)
      refine ⟨(fA.t ft_up).t b1, fun he => ?_⟩
      obtain ⟨c1, c2, c3⟩ := b2 he
      exact ⟨c1, c2, nf, f1, f5, c3.trans ((hS 0 (by decide)).trans f0)⟩
    · rw [if_neg h0]
      exact ⟨fA.t ft_up, fun he => absurd he h0⟩
  unfold rtF at E
  obtain ⟨B, hBB⟩ : ∃ B, rtB (V.1 319) l V = B := ⟨_, rfl⟩
  rw [hBB] at E hB
  obtain ⟨fB, rB⟩ := hB
  have eB : ∀ a, a = 314 ∨ a = 315 ∨ a = 317 → B.1.1 a = (rt0 V).1 a := fun a ha => fB.1 a (by omega) (by omega) (by omega) (by omega)
  have eB12 : ∀ k, k = 5 ∨ k = 7 ∨ k = 26 → B.1.1 312 k = V.1 312 k := fun k hk => (fB.2 k (by omega)).trans (congrFun (eZ 312 (by decide) (by decide)) k)
  by_cases h0 : er B.2 = 0
  · rw [if_pos h0] at E
    obtain ⟨c1, ⟨np, p1, p5, p0⟩, nf, f1, f5, f0⟩ := rB h0
    have e313 : (rtE B.1 B.2).1 313 = B.1.1 313 := rtE_ne (by decide)
    have hRT : RT (rtE B.1 B.2) := by
      unfold RT
      rw [e313]
      exact c1
    have hso := beg_so hRT (by rw [e313]; exact f0) f1 f5 (by rw [e313]; exact p0) p1 p5
    have eN : ∀ a, a ≠ 312 → a ≠ 313 → (rtH (rtE B.1 B.2)).1 a = (rtE B.1 B.2).1 a := fun a z1 z2 => (funext fun j => up_ne _ _ (Or.inl z1)).trans ((funext fun j => up_ne _ _ (Or.inl z2)).trans (funext fun j => ovr_ne _ _ z2 j))
    have e12 : ∀ k, k ≠ 5 → (rtH (rtE B.1 B.2)).1 312 k = (rtE B.1 B.2).1 312 k := fun k hk => (up_ne _ _ (Or.inr hk)).trans ((up_ne _ _ (Or.inl (by decide))).trans (ovr_ne _ _ (by decide) k))
    refine ⟨_, _, E, _, _, rfl, rfl, ⟨0, 0, ol, bq, (e12 10 (by decide)).trans rtE_10, Nat.zero_le _, up_eq _ _ _ _, Nat.zero_le _, (e12 26 (by decide)).trans (rtE_26.trans ((eB12 26 (by omega)).trans g5)), g6, (e12 7 (by decide)).trans (rtE_7.trans ((eB12 7 (by omega)).trans g7)), fun z => ?_, hso, fun q hq => absurd hq (Nat.not_lt_zero q)⟩, (e12 10 (by decide)).trans rtE_10, fun a h => (eN a (by omega) (by omega)).trans ((rtE_ne (by omega)).trans ((fB.1 a (by omega) (by omega) (by omega) (by omega)).trans (eZ a (by omega) (by omega))))⟩
    rw [eN 314 (by decide) (by decide), rtE_ne (by decide), eB 314 (by omega), eZ 314 (by decide) (by decide)]
    exact g8 z
  · rw [if_neg h0] at E
    have eN : ∀ a, a ≠ 312 → a ≠ 313 → (cpV (rtE B.1 B.2) 315 0 313 0 564).1 a = B.1.1 a := fun a z1 z2 => (funext fun j => ovr_ne _ _ z2 j).trans (rtE_ne z1)
    have e12 : ∀ k, (cpV (rtE B.1 B.2) 315 0 313 0 564).1 312 k = (rtE B.1 B.2).1 312 k := fun k => ovr_ne _ _ (by decide) k
    refine ⟨_, _, E, _, _, rfl, rfl, ⟨0, pm, ol, bq, (e12 10).trans rtE_10, Nat.zero_le _, (e12 5).trans (rtE_5.trans ((eB12 5 (by omega)).trans g3)), g4, (e12 26).trans (rtE_26.trans ((eB12 26 (by omega)).trans g5)), g6, (e12 7).trans (rtE_7.trans ((eB12 7 (by omega)).trans g7)), fun z => ?_, ?_, g10.cg ((eN 317 (by decide) (by decide)).trans ((eB 317 (by omega)).trans (eZ 317 (by decide) (by decide))))⟩, (e12 10).trans rtE_10, fun a h => (eN a (by omega) (by omega)).trans ((fB.1 a (by omega) (by omega) (by omega) (by omega)).trans (eZ a (by omega) (by omega)))⟩
    · rw [eN 314 (by decide) (by decide), eB 314 (by omega), eZ 314 (by decide) (by decide)]
      exact g8 z
    · refine SO.cg (fun k hk => ?_) g9
      have e1 : (cpV (rtE B.1 B.2) 315 0 313 0 564).1 313 k = (rtE B.1 B.2).1 315 (0 + (k - 0)) := ovr_some _ (if_pos ⟨Nat.zero_le _, by omega⟩)
      have e2 : (rt0 V).1 315 (0 + (k - 0)) = V.1 313 (0 + (0 + (k - 0) - 0)) := (ovr_ne _ _ (by decide) _).trans (ovr_some V (if_pos ⟨by omega, by omega⟩))
      rw [e1, rtE_ne (by decide), eB 315 (by omega), e2, show 0 + (0 + (k - 0) - 0) = k by omega]
end M56
