section N_zd
/-! ===== the line of the facts on both sides ===== -/
theorem nr_lay {V : hV} {f : Nat → Int32} {l p n t : Nat} (hB : BYT f l) (h : kdE f l p = 256) : NRc ((flV f l V (t, p, wl f l p, 0, 0) n).1 313) (80 + 7 * n) (nmE f l p) := by
  obtain ⟨w1, w6, hx⟩ := nm_pk h hB
  have hl := ((wl_is (f := f) (l := l) (p := p) (n := wl f l p)).mp rfl).1
  have e : ∀ j, j ≠ 0 → (flV f l V (t, p, wl f l p, 0, 0) n).1 313 j = (layV V f l p (wl f l p) (80 + 7 * n)).1 313 j := fun j hj => up_ne _ _ (Or.inr hj)
  refine ⟨wl f l p, dgF f l p, w1, w6, fun i hi => ⟨(dg_ltr (hl i hi)).1, (dg_ltr (hl i hi)).2.1⟩, ?_, fun i hi => ?_, hx⟩
  · rw [e _ (by omega)]
    exact ovr_some V (if_pos rfl)
  · rw [e _ (by omega), ← (dg_ltr (hl i hi)).2.2]
    refine ovr_some V ?_
    unfold layG
    rw [if_neg (by omega), if_pos (by omega), show 80 + 7 * n + 1 + i - (80 + 7 * n) - 1 = i by omega]
theorem nr_cg {G G' : Nat → Int32} {t : Nat} {x : Int32} (h : NRc G t x) (e : ∀ j, t ≤ j → j ≤ t + 6 → G' j = G j) : NRc G' t x := by
  obtain ⟨w, d, h1, h6, h2, h3, h4, h5⟩ := h
  exact ⟨w, d, h1, h6, h2, (e _ (by omega) (by omega)).trans h3, fun i hi => (e _ (by omega) (by omega)).trans (h4 i hi), h5⟩
theorem nr_old {V : hV} {f : Nat → Int32} {l n k : Nat} {T : hP} {x : Int32} (hk : k < n) (hw : T.2.2.1 ≤ 6) (h : NRc (V.1 313) (80 + 7 * k) x) : NRc ((flV f l V T n).1 313) (80 + 7 * k) x := nr_cg h fun j j1 j2 => by
  refine (up_ne _ _ (Or.inr (by omega))).trans ?_
  refine ovr_none V ?_
  unfold layG
  rw [if_neg (by omega), if_neg (by omega)]
theorem flV_cg {V : hV} {f : Nat → Int32} {l n : Nat} {T T' : hP} (h1 : T.2.1 = T'.2.1) (h2 : T.2.2.1 = T'.2.2.1) : flV f l V T n = flV f l V T' n := by
  unfold flV
  rw [h1, h2]
/-- the facts read: an error on both sides; or the class goes on at a word that is no name, and the reference has an error; or both go on -/
def FLR (f : Nat → Int32) (l : Nat) (t : nmS) (R : hV × hP) : Prop := (t.2.1 = true ∧ ¬ er R.2 = 0) ∨ (t.2.1 = false ∧ ¬ wl f l t.1 = 0 ∧ ¬ kdE f l t.1 = 256 ∧ ¬ er R.2 = 0) ∨ (t.2.1 = false ∧ wl f l t.1 = 0 ∧ RE f l t.1 false R.2 ∧ 1 ≤ t.2.2.2 ∧ t.2.2.2 ≤ 5 ∧ R.1.1 313 0 = Int32.ofNat t.2.2.2 ∧ (∀ k, k < t.2.2.2 → NRc (R.1.1 313) (80 + 7 * k) (t.2.2.1 k)) ∧ R.1.1 313 2 = wsN t.2.2.2)
theorem fc_er {f : Nat → Int32} {l : Nat} {t : nmS} (h : t.2.1 = true) : ∀ g, fcM f l g t = t
  | 0 => rfl
  | g + 1 => by
    unfold fcM
    rw [if_neg (fun z => by rw [h] at z; cases z.2)]
theorem fc_nn {f : Nat → Int32} {l : Nat} {t : nmS} (h : ¬ kdE f l t.1 = 256) : ∀ g, fcM f l g t = t
  | 0 => rfl
  | g + 1 => by
    unfold fcM
    rw [if_neg (fun z => h z.1)]
theorem re_fl {f : Nat → Int32} {l : Nat} (hB : BYT f l) : ∀ (g n gc p : Nat) (V : hV) (T : hP) (Gc : Nat → Int32), n + g = 6 → n ≤ 5 → g ≤ gc → RE f l p false T → (∀ k, k < n → NRc (V.1 313) (80 + 7 * k) (Gc k)) → FLR f l (fcM f l gc (nwS f l (p, false, Gc, n))) (flF f l g n V T)
  | 0, n, gc, p, V, T, Gc, hn, h5, hg, h, hR => by omega
  | g + 1, n, gc, p, V, T, Gc, hn, h5, hg, h, hR => by
    have hF : flF f l (g + 1) n V T = _ := flF.eq_2 f l n V T g
    have hX := (re_nw hB h hR).resolve_right (fun z => z h5)
    obtain ⟨hp, hT⟩ := h.2 rfl
    rw [hF]
    obtain ⟨r, hr⟩ : ∃ r, rnP (V.1 313) f l 80 n T = r := ⟨_, rfl⟩
    have hRN := re_rn hB h hR
    rw [hr] at hX hRN ⊢
    obtain ⟨X, hXX⟩ : ∃ X, flX n r = X := ⟨_, rfl⟩
    rw [hXX] at hX ⊢
    cases b : nwB f l p Gc n with
    | false =>
      rw [b, if_neg (by decide)] at hX
      have hx : ¬ er X = 0 := fun z => by cases hX.1.mp z
      have hs : nwS f l (p, false, Gc, n) = (p, true, Gc, n) := if_neg (by rw [b]; decide)
      rw [hs, fc_er rfl, if_neg hx]
      exact Or.inl ⟨rfl, hx⟩
    | true =>
      rw [b, if_pos rfl] at hX
      have hx : er X = 0 := hX.1.mpr rfl
      have hs : nwS f l (p, false, Gc, n) = (nxE f l p, false, nxG Gc n (nmE f l p), n + 1) := if_pos b
      have hb : kdE f l p = 256 ∧ ¬ n = 5 := by
        unfold nwB at b
        rw [Bool.and_eq_true, Bool.and_eq_true] at b
        refine ⟨of_decide_eq_true b.1, fun z => ?_⟩
        rw [decide_eq_true z] at b
        cases b.2.2
      obtain ⟨hk, hn5⟩ := hb
      have hwp := nm_pk hk hB
      rcases hRN with ⟨_, r1, r2, r3⟩ | ⟨z, _⟩
      · have hXb : X.2.1 = p ∧ X.2.2.1 = wl f l p := by
          rw [← hXX]
          show r.2.2.1 = p ∧ r.2.2.2.1 = wl f l p
          rw [r2, hp]
          exact ⟨rfl, rfl⟩
        have hfl : flV f l V X n = flV f l V (X.1, p, wl f l p, 0, 0) n := flV_cg hXb.1 hXb.2
        have hNR : ∀ k, k < n + 1 → NRc ((flV f l V X n).1 313) (80 + 7 * k) (nxG Gc n (nmE f l p) k) := fun k hk2 => by
          unfold nxG
          by_cases c : k = n
          · rw [if_pos c, c, hfl]
            exact nr_lay hB hk
          · rw [if_neg c]
            exact nr_old (by omega) (by rw [hXb.2]; exact hwp.2.1) (hR k (by omega))
        rw [hs, if_pos hx]
        obtain ⟨hp2, hT2⟩ := hX.2 rfl
        have hw : wn f l X.1 = wl f l (nxE f l p) := by rw [hp2]
        rw [hw]
        by_cases w0 : wl f l (nxE f l p) = 0
        · rw [if_neg (by omega)]
          have kn : ¬ kdE f l (nxE f l p) = 256 := fun z => kd_w hB z w0
          rw [fc_nn (t := (nxE f l p, false, nxG Gc n (nmE f l p), n + 1)) kn]
          refine Or.inr (Or.inr ⟨rfl, w0, re_nx hX, Nat.succ_pos n, Nat.lt_of_le_of_ne h5 hn5, ?_, fun k hk2 => nr_cg (hNR k hk2) fun j j1 j2 => up_ne _ _ (Or.inr (by omega)), up_eq _ _ _ _⟩)
          exact (up_ne _ _ (Or.inr (by decide))).trans (up_eq _ _ _ _)
        · rw [if_pos (by omega)]
          by_cases kn : kdE f l (nxE f l p) = 256
          · obtain ⟨gd, rfl⟩ : ∃ gd, gc = gd + 1 := ⟨gc - 1, by omega⟩
            have hfc : fcM f l (gd + 1) (nxE f l p, false, nxG Gc n (nmE f l p), n + 1) = fcM f l gd (nwS f l (nxE f l p, false, nxG Gc n (nmE f l p), n + 1)) := if_pos ⟨kn, rfl⟩
            rw [hfc]
            exact re_fl hB g (n + 1) gd _ _ _ _ (by omega) (by omega) (by omega) (re_nx hX) hNR
          · rw [fc_nn (t := (nxE f l p, false, nxG Gc n (nmE f l p), n + 1)) kn]
            refine Or.inr (Or.inl ⟨rfl, w0, kn, ?_⟩)
            obtain ⟨g2, rfl⟩ : ∃ g2, g = g2 + 1 := ⟨g - 1, by omega⟩
            rcases re_rn hB (re_nx hX) hNR with ⟨z, _⟩ | ⟨_, q1, q2⟩
            · exact absurd z kn
            · have hF2 : flF f l (g2 + 1) (n + 1) (flV f l V X n) (nxP f l X) = _ := flF.eq_2 f l (n + 1) (flV f l V X n) (nxP f l X) g2
              have hq : ¬ er (flX (n + 1) (rnP ((flV f l V X n).1 313) f l 80 (n + 1) (nxP f l X))) = 0 := fun z => q2 (mu_er (by decide) (mu_er (by decide) z))
              rw [hF2, if_neg hq]
              exact hq
      · exact absurd hk z
end N_zd
