section M18
/-! ===== the reference: what was read is a formula (induction) ===== -/
def NdOk (G f : Nat → Int32) (l bs : Nat) (pl : Bool) (np nf g : Nat) : Prop :=
  (∀ (k : Int32) (q : hQ), OKq l bs q → 4 * (l + 2 - q.2.2.2.1) + 1 ≤ g → NR bs np nf q (rd G f l bs pl np nf g 0 k q)) ∧
  (∀ (k : Int32) (q : hQ), OKq l bs q → 4 * (l + 2 - q.2.2.2.1) + 2 ≤ g → NR bs np nf q (rd G f l bs pl np nf g 1 k q)) ∧
  (∀ (k : Int32) (q : hQ), OKq l bs q → 4 * (l + 2 - q.2.2.2.1) + 3 ≤ g → NR bs np nf q (rd G f l bs pl np nf g 2 k q)) ∧
  (∀ (k : Int32) (q : hQ), OKq l bs q → 4 * (l + 2 - q.2.2.2.1) + 1 ≤ g → NL bs np nf k q (rd G f l bs pl np nf g 3 k q)) ∧
  (∀ (k : Int32) (q : hQ), OKq l bs q → 4 * (l + 2 - q.2.2.2.1) + 1 ≤ g → NL bs np nf k q (rd G f l bs pl np nf g 4 k q))
theorem nr_nl {bs np nf : Nat} {q : hQ} {r r2 : Int32 × hQ} (h1 : NR bs np nf q r) (h2 : NL bs np nf r.1 r.2 r2) : NR bs np nf q r2 := by
  intro h
  obtain ⟨e1, h3⟩ := h2 h
  obtain ⟨e2, h4⟩ := h1 e1
  refine ⟨e2, fun m hm => ?_⟩
  obtain ⟨m1, a1, a2, a3, a4, a5, a6⟩ := h4 m hm
  obtain ⟨m2, b1, b2, b3, b4, b5, b6⟩ := h3 m1 a1 (by omega) a3
  exact ⟨m2, b1, by omega, b3, by omega, a5.tr b5 (by omega), b6 m a6⟩
theorem nd_ok {S : ww_S} {sh : List mm_C} {V : hV} {G f : Nat → Int32} {l bs : Nat} {pl : Bool} {np nf : Nat} (hM : MS sh) (hC : RC V G f l bs pl np nf) (g : Nat) : NdOk G f l bs pl np nf g := by
  induction g with
  | zero => exact ⟨fun k q hq hg => by omega, fun k q hq hg => by omega, fun k q hq hg => by omega, fun k q hq hg => by omega, fun k q hq hg => by omega⟩
  | succ g ih =>
    have hb := rd_ok (S := S) hM hC g
    obtain ⟨ihit, ihpt, ihal, ihlp, ihla⟩ := ih
    refine ⟨?_, ?_, ?_, ?_, ?_⟩
    · intro k q hq hg
      obtain ⟨q1, q2, q3, q4, q5, m, q6, q7⟩ := hq
      have hk0 : rd G f l bs pl np nf (g + 1) 0 k q = itQ G f l bs pl np nf (rd G f l bs pl np nf g) q := rfl
      rw [hk0]
      by_cases h0 : er q.2.2.2 = 0
      · have hq1 := q2 h0
        have hs1 := sk_le f l q.2.2.2.1
        have hs2 : q.2.2.2.1 ≤ sk f l q.2.2.2.1 := skF_ge f l l q.2.2.2.1
        have hw2 := wn_le f l q.2.2.2.1
        by_cases hb4 : byt f l (sk f l q.2.2.2.1) = 40
        · have hR : itQ G f l bs pl np nf (rd G f l bs pl np nf g) q = inQ f l (rd G f l bs pl np nf g) (nxQ f l q) := by
            unfold itQ
            rw [if_pos h0, if_pos hb4]
          have hlt : sk f l q.2.2.2.1 < l := by
            refine Nat.lt_of_not_le fun z => ?_
            rw [byt_ge z] at hb4
            exact absurd hb4 (by decide)
          rw [hR]
          refine (id (in_nd (q := nxQ f l q) fun hz => ?_) : NR bs np nf q _)
          have ho : q.2.2.1 < 8 := by
            refine Nat.lt_of_not_le fun z => ?_
            have hz : er (muP (if q.2.2.1 < 8 then 1 else 0) 1 (nxP f l q.2.2.2)) = 0 := hz
            rw [if_neg (Nat.not_lt.mpr z), er_mu0 (show er (nxP f l q.2.2.2) = 0 from h0)] at hz
            exact absurd hz (by decide)
          exact ihal 0 _ ⟨show sk f l q.2.2.2.1 + 1 ≤ l + 1 by omega, fun _ => show sk f l q.2.2.2.1 + 1 ≤ l by omega, q3, fun _ => q4 h0, show q.2.2.1 + 1 ≤ 8 by omega, m, q6, q7⟩ (show 4 * (l + 2 - (sk f l q.2.2.2.1 + 1)) + 3 ≤ g by omega)
        · by_cases hn : seW f l q.2.2.2.1 3 2139822313027049357422 = true
          · have hR : itQ G f l bs pl np nf (rd G f l bs pl np nf g) q = ntQ bs (rd G f l bs pl np nf g) (nxQ f l q) := by
              unfold itQ
              rw [if_pos h0, if_neg hb4, if_pos hn]
            have hw := se_wn hn
            rw [hR]
            refine (id (nt_nd (q := nxQ f l q) fun hz => ?_) : NR bs np nf q _)
            have hz2 : q.2.1 + 1 ≤ 60 := (co_er hz).2
            exact ihit 0 _ ⟨show sk f l q.2.2.2.1 + wn f l q.2.2.2.1 ≤ l + 1 by omega, fun _ => show sk f l q.2.2.2.1 + wn f l q.2.2.2.1 ≤ l by omega, show q.2.1 + 1 ≤ 61 by omega, fun _ => hz2, q5, m, q6, q7⟩ (show 4 * (l + 2 - (sk f l q.2.2.2.1 + wn f l q.2.2.2.1)) + 1 ≤ g by omega)
          · by_cases hm1 : mkF f l q.2.2.2.1 = -1
            · have hR : itQ G f l bs pl np nf (rd G f l bs pl np nf g) q = fcQ G f l bs nf (nxQ f l q) := by
                unfold itQ
                rw [if_pos h0, if_neg hb4, if_neg hn, if_pos hm1]
              rw [hR]
              exact (id (fc_nd (q := nxQ f l q)) : NR bs np nf q _)
            · have hR : itQ G f l bs pl np nf (rd G f l bs pl np nf g) q = mlQ G f l bs pl np (rd G f l bs pl np nf g) (mkF f l q.2.2.2.1) (nxQ f l q) := by
                unfold itQ
                rw [if_pos h0, if_neg hb4, if_neg hn, if_neg hm1]
              have hw := mk_wn hm1
              obtain ⟨kn, e1, e2, e3⟩ := mk_val hm1
              rw [hR, e1]
              refine (id (ml_nd (q := nxQ f l q) e2 e3 fun hz => ?_) : NR bs np nf q _)
              have hz2 : q.2.1 + 1 ≤ 60 := (co_er hz).2
              have hkk : sk f l q.2.2.2.1 + wn f l q.2.2.2.1 ≤ (mlK G f l pl np (Int32.ofNat kn) (nxQ f l q)).2.1 ∧ (mlK G f l pl np (Int32.ofNat kn) (nxQ f l q)).2.1 ≤ l + 1 ∧ (er (mlK G f l pl np (Int32.ofNat kn) (nxQ f l q)).2 = 0 → (mlK G f l pl np (Int32.ofNat kn) (nxQ f l q)).2.1 ≤ l) := by
                unfold mlK
                by_cases hk : Int32.ofNat kn = 4 ∨ Int32.ofNat kn = 5
                · rw [if_pos hk]
                  obtain ⟨g1, g2, g3⟩ := kn_ok (G := G) (f := f) (l := l) (base := 115) (many := np) (T := goP (mlT pl (Int32.ofNat kn) (nxQ f l q))) (show sk f l q.2.2.2.1 + wn f l q.2.2.2.1 ≤ l + 1 by omega) (fun _ => show sk f l q.2.2.2.1 + wn f l q.2.2.2.1 ≤ l by omega)
                  exact ⟨g1, g2, fun h => (g3 h).2⟩
                · rw [if_neg hk]
                  exact ⟨Nat.le_refl _, show sk f l q.2.2.2.1 + wn f l q.2.2.2.1 ≤ l + 1 by omega, fun _ => show sk f l q.2.2.2.1 + wn f l q.2.2.2.1 ≤ l by omega⟩
              obtain ⟨j1, j2, j3⟩ := hkk
              exact ihit 0 _ ⟨j2, j3, show q.2.1 + 1 ≤ 61 by omega, fun _ => hz2, q5, m, q6, q7⟩ (show 4 * (l + 2 - (mlK G f l pl np (Int32.ofNat kn) (nxQ f l q)).2.1) + 1 ≤ g by omega)
      · have hR : itQ G f l bs pl np nf (rd G f l bs pl np nf g) q = (0, q) := if_neg h0
        rw [hR]
        exact fun h => absurd h h0
    · intro k q hq hg
      have h1 := hq.1
      have hk0 : rd G f l bs pl np nf (g + 1) 1 k q = ptQ (rd G f l bs pl np nf g) q := rfl
      rw [hk0]
      obtain ⟨_, r1, r2, r3, r4⟩ := hb.1 0 q hq (by omega)
      exact nr_nl (ihit 0 q hq (by omega)) (ihlp _ _ r4 (by omega))
    · intro k q hq hg
      have h1 := hq.1
      have hk0 : rd G f l bs pl np nf (g + 1) 2 k q = alQ (rd G f l bs pl np nf g) q := rfl
      rw [hk0]
      obtain ⟨_, r1, r2, r3, r4⟩ := hb.2.1 0 q hq (by omega)
      exact nr_nl (ihpt 0 q hq (by omega)) (ihla _ _ r4 (by omega))
    · intro k q hq hg
      have hk0 : rd G f l bs pl np nf (g + 1) 3 k q = jnQ f l bs (rd G f l bs pl np nf g) 3 1844674407843401564257 0 3 (Int32.ofNat 2) k q := rfl
      rw [hk0]
      refine jn_nd (by omega) fun hs hz => ?_
      have hs9 := hs
      unfold seB at hs9
      rw [Bool.and_eq_true] at hs9
      have h0 : er q.2.2.2 = 0 := of_decide_eq_true hs9.1
      have hw := se_wn hs9.2
      obtain ⟨q1, q2, q3, q4, q5, m, q6, q7⟩ := hq
      have hq1 := q2 h0
      have hz2 := (co_er hz).2
      have hs1 := sk_le f l q.2.2.2.1
      have hs2 : q.2.2.2.1 ≤ sk f l q.2.2.2.1 := skF_ge f l l q.2.2.2.1
      have hw2 := wn_le f l q.2.2.2.1
      have hO : OKq l bs (q.1, q.2.1 + 1, q.2.2.1, goP (coP q.2.1 (nxP f l q.2.2.2))) := ⟨show sk f l q.2.2.2.1 + wn f l q.2.2.2.1 ≤ l + 1 by omega, fun _ => show sk f l q.2.2.2.1 + wn f l q.2.2.2.1 ≤ l by omega, show q.2.1 + 1 ≤ 61 by omega, fun _ => show q.2.1 + 1 ≤ 60 by omega, q5, m, q6, q7⟩
      have hfu : 4 * (l + 2 - (sk f l q.2.2.2.1 + wn f l q.2.2.2.1)) + 2 ≤ g := by omega
      obtain ⟨_, g1, g2, g3, g4, g5, g8, g9, g10, m1, g6, g7⟩ := hb.1 0 _ hO (Nat.le_trans (Nat.add_le_add_left (by decide) _) hfu)
      have g1 : sk f l q.2.2.2.1 + wn f l q.2.2.2.1 ≤ _ := g1
      refine ⟨ihit 0 _ hO (Nat.le_trans (Nat.add_le_add_left (by decide) _) hfu), fun x hx => ?_⟩
      obtain ⟨m2, g11, g12⟩ := mdF_b (e := er (rd G f l bs pl np nf g 0 0 (q.1, q.2.1 + 1, q.2.2.1, goP (coP q.2.1 (nxP f l q.2.2.2)))).2.2.2.2) (kd := Int32.ofNat 2) (a := k) (c := (rd G f l bs pl np nf g 0 0 (q.1, q.2.1 + 1, q.2.2.1, goP (coP q.2.1 (nxP f l q.2.2.2)))).1) g6 g7
      have hx2 : x.2.2.2.2.1 = (rd G f l bs pl np nf g 0 0 (q.1, q.2.1 + 1, q.2.2.1, goP (coP q.2.1 (nxP f l q.2.2.2)))).2.2.2.2.1 := by rw [hx]; rfl
      refine ihlp x.1 x.2 (by rw [hx]; exact ⟨g4, g5, g8, g9, g10, m2, g11, g12⟩) ?_
      rw [hx2]
      omega
    · intro k q hq hg
      have hk0 : rd G f l bs pl np nf (g + 1) 4 k q = jnQ f l bs (rd G f l bs pl np nf g) 2 489626271855 1 4 (Int32.ofNat 3) k q := rfl
      rw [hk0]
      refine jn_nd (by omega) fun hs hz => ?_
      have hs9 := hs
      unfold seB at hs9
      rw [Bool.and_eq_true] at hs9
      have h0 : er q.2.2.2 = 0 := of_decide_eq_true hs9.1
      have hw := se_wn hs9.2
      obtain ⟨q1, q2, q3, q4, q5, m, q6, q7⟩ := hq
      have hq1 := q2 h0
      have hz2 := (co_er hz).2
      have hs1 := sk_le f l q.2.2.2.1
      have hs2 : q.2.2.2.1 ≤ sk f l q.2.2.2.1 := skF_ge f l l q.2.2.2.1
      have hw2 := wn_le f l q.2.2.2.1
      have hO : OKq l bs (q.1, q.2.1 + 1, q.2.2.1, goP (coP q.2.1 (nxP f l q.2.2.2))) := ⟨show sk f l q.2.2.2.1 + wn f l q.2.2.2.1 ≤ l + 1 by omega, fun _ => show sk f l q.2.2.2.1 + wn f l q.2.2.2.1 ≤ l by omega, show q.2.1 + 1 ≤ 61 by omega, fun _ => show q.2.1 + 1 ≤ 60 by omega, q5, m, q6, q7⟩
      have hfu : 4 * (l + 2 - (sk f l q.2.2.2.1 + wn f l q.2.2.2.1)) + 2 ≤ g := by omega
      obtain ⟨_, g1, g2, g3, g4, g5, g8, g9, g10, m1, g6, g7⟩ := hb.2.1 0 _ hO (Nat.le_trans (Nat.add_le_add_left (by decide) _) hfu)
      have g1 : sk f l q.2.2.2.1 + wn f l q.2.2.2.1 ≤ _ := g1
      refine ⟨ihpt 0 _ hO (Nat.le_trans (Nat.add_le_add_left (by decide) _) hfu), fun x hx => ?_⟩
      obtain ⟨m2, g11, g12⟩ := mdF_b (e := er (rd G f l bs pl np nf g 1 0 (q.1, q.2.1 + 1, q.2.2.1, goP (coP q.2.1 (nxP f l q.2.2.2)))).2.2.2.2) (kd := Int32.ofNat 3) (a := k) (c := (rd G f l bs pl np nf g 1 0 (q.1, q.2.1 + 1, q.2.2.1, goP (coP q.2.1 (nxP f l q.2.2.2)))).1) g6 g7
      have hx2 : x.2.2.2.2.1 = (rd G f l bs pl np nf g 1 0 (q.1, q.2.1 + 1, q.2.2.1, goP (coP q.2.1 (nxP f l q.2.2.2)))).2.2.2.2.1 := by rw [hx]; rfl
      refine ihla x.1 x.2 (by rw [hx]; exact ⟨g4, g5, g8, g9, g10, m2, g11, g12⟩) ?_
      rw [hx2]
      omega

end M18
