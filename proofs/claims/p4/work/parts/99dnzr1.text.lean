section N_zr
/-! ===== a description on both sides, whole ===== -/
/-- behind the laws -/
def rsB (f : Nat → Int32) (l nf : Nat) (B : hV × hP) : hV × hP := if er B.2 = 0 then (if er (peP f l B.2) = 0 then plL f l nf 8 (pnF f l nf 0 B.1 (peP f l B.2)).1 (pnF f l nf 0 B.1 (peP f l B.2)).2 else plL f l nf 8 B.1 (peP f l B.2)) else B
theorem rs_bad {f : Nat → Int32} {l nf : Nat} {B : hV × hP} (h : ¬ er B.2 = 0) : rsB f l nf B = B := if_neg h
theorem ll_bad {f : Nat → Int32} {l nf np : Nat} {V : hV} {T : hP} (h : ¬ er T = 0) : ∀ g, ¬ er (lwL f l nf np g V T).2 = 0
  | 0 => h
  | g + 1 => by
    unfold lwL
    rw [if_neg h]
    exact h
/-- laws and persons on both sides -/
theorem re_ll {f : Nat → Int32} {l : Nat} {Gf : Nat → Int32} {cf : Nat} (hB : BYT f l) (hl : l ≤ 600) (h5c : cf ≤ 5) : ∀ (g gc : Nat) (t : dS) (V : hV) (T : hP), LNC Gf cf t V → RE f l t.1 false T → t.2.2.1 = 0 → t.2.2.2.2.2.2 = -1 → t.2.2.2.2.1 + g = 9 → g + 20 ≤ gc → LNE Gf cf (dRd f l Gf cf gc t) (rsB f l cf (lwL f l cf 0 g V T))
  | 0, gc, t, V, T, hC, _, _, _, hm, _ => by
    have := hC.2.2.2.2.2.2.2.1
    omega
  | g + 1, gc, t, V, T, hC, hR, h0, hre, hm, hg => by
    obtain ⟨gc, rfl⟩ : ∃ q, gc = q + 1 := ⟨gc - 1, by omega⟩
    obtain ⟨c1, c2, c3, c4, c5, c6, c7, c8, c9, c10⟩ := id hC
    have e0 := hR.1.mpr rfl
    unfold lwL
    rw [if_pos e0]
    have hS := re_sg (c := 59) (by decide) (by decide) (by decide) hR
    by_cases k59 : kdE f l t.1 = 59
    · rw [if_pos k59, decide_eq_true k59] at hS
      have hS : RE f l (nxE f l t.1) false (sgP f l 59 T) := hS
      have e1 := hS.1.mpr rfl
      obtain ⟨hp, hT⟩ := hS.2 rfl
      have enl : nlP f l T = nxP f l (sgP f l 59 T) := if_pos e1
      have enb : nlB f l T 3 2195162545188048470124 = spB f l (nxE f l t.1) 3 2195162545188048470124 := by
        unfold nlB
        rw [decide_eq_true e1, Bool.true_and, se_sp lw_law, ← hp]
      rw [enl, enb, dr_line k59]
      obtain ⟨T1, hT1⟩ : ∃ T1, sgP f l 59 T = T1 := ⟨_, rfl⟩
      rw [hT1] at hS e1 ⊢
      by_cases kl : spB f l (nxE f l t.1) 3 2195162545188048470124 = true
      · rw [if_pos kl]
        have hw : ¬ wl f l (nxE f l t.1) = 0 := by
          have := (sp_0 lw_law (by decide) kl).1
          omega
        have hun : mm_un (V.1 313 5) = t.2.2.2.2.1 := by
          rw [c7]
          exact i_un (by omega)
        have hL := re_law (b := (nxP f l T1).2.1) (Gp := t.2.1) hB hl h5c hS hw c2 c9 c8
        have eln : lnS f l Gf cf t = if (lwS f l Gf cf t.2.1 t.2.2.1 (nxE f l t.1) t.2.2.2.2.1 t.2.2.2.2.2.1).2.1 = true then none else some ((lwS f l Gf cf t.2.1 t.2.2.1 (nxE f l t.1) t.2.2.2.2.1 t.2.2.2.2.2.1).1, t.2.1, t.2.2.1, t.2.2.2.1, (lwS f l Gf cf t.2.1 t.2.2.1 (nxE f l t.1) t.2.2.2.2.1 t.2.2.2.2.2.1).2.2.1, (lwS f l Gf cf t.2.1 t.2.2.1 (nxE f l t.1) t.2.2.2.2.1 t.2.2.2.2.2.1).2.2.2, t.2.2.2.2.2.2) := by
          unfold lnS
          rw [if_pos ⟨h0, kl⟩]
        rw [eln, hun, h0]
        obtain ⟨r, hr⟩ : ∃ r, lwS f l Gf cf t.2.1 0 (nxE f l t.1) t.2.2.2.2.1 t.2.2.2.2.2.1 = r := ⟨_, rfl⟩
        obtain ⟨W, hW⟩ : ∃ W, lwF f l 0 cf t.2.2.2.2.1 (nxP f l T1).2.1 V (nxP f l T1) = W := ⟨_, rfl⟩
        rw [hr, hW] at hL
        rw [hr, hW]
        rcases hL with ⟨a1, a2⟩ | ⟨a1, a2, a3, a4, a5, a6, a7⟩
        · rw [if_pos a1]
          have hb := ll_bad (f := f) (l := l) (nf := cf) (np := 0) (V := W.1) a2 g
          rw [rs_bad hb]
          exact Or.inl ⟨rfl, hb⟩
        · rw [if_neg (by rw [a1]; decide)]
          refine re_ll hB hl h5c g gc _ W.1 W.2 ⟨?_, ?_, ?_, Nat.zero_le _, fun k hk => absurd hk (Nat.not_lt_zero k), fun k hk => absurd hk (Nat.not_lt_zero k), ?_, ?_, ?_, ?_⟩ a2 rfl hre ?_ (by omega)
          · exact (a7 0 (by decide) (by decide)).trans c1
          · exact fun k hk => nr_cg (c2 k hk) fun j j1 j2 => a7 j (by omega) (by omega)
          · show W.1.1 313 1 = Int32.ofNat 0
            rw [a7 1 (by decide) (by decide), c3, h0]
          · show W.1.1 313 5 = Int32.ofNat r.2.2.1
            rw [a3]
            exact a5
          · show r.2.2.1 ≤ 6
            omega
          · exact a6
          · exact (a7 4 (by decide) (by decide)).trans c10
          · show r.2.2.1 + g = 9
            omega
      · rw [if_neg kl]
        have hlaw : ¬ (t.2.2.1 = 0 ∧ spB f l (nxE f l t.1) 3 2195162545188048470124 = true) := fun z => kl z.2
        have hS1 := re_nx hS
        unfold rsB
        rw [if_pos (show er (nxP f l T1) = 0 from e1)]
        have epe : peP f l (nxP f l T1) = muP (bI (spB f l (nxE f l t.1) 6 160765180144170663739740739734469041235173086068848)) 1 (nxP f l (nxP f l T1)) := by
          unfold peP
          rw [re_se lw_per hS1]
        rw [epe]
        by_cases kp : spB f l (nxE f l t.1) 6 160765180144170663739740739734469041235173086068848 = true
        · have hw : ¬ wl f l (nxE f l t.1) = 0 := by
            have := (sp_0 lw_per (by decide) kp).1
            omega
          have e2 : er (muP (bI (spB f l (nxE f l t.1) 6 160765180144170663739740739734469041235173086068848)) 1 (nxP f l (nxP f l T1))) = 0 := by
            rw [kp]
            show er (muP 1 1 (nxP f l (nxP f l T1))) = 0
            rw [er_mu1]
            exact e1
          have hgo : RE f l (nxE f l (nxE f l t.1)) false (goP (muP (bI (spB f l (nxE f l t.1) 6 160765180144170663739740739734469041235173086068848)) 1 (nxP f l (nxP f l T1)))) := by
            rw [kp]
            exact re_go hS1 hw 1
          rw [if_pos e2, ln_per hlaw kp]
          rw [h0] at c4 c5 c6 ⊢
          have hP := re_per (Gp := t.2.1) (sn := t.2.2.2.1) hB h5c c4 e2 hgo c2 c5 c6
          obtain ⟨r, hr⟩ : ∃ r, psS f l Gf cf t.2.1 0 t.2.2.2.1 (nxE f l t.1) = r := ⟨_, rfl⟩
          obtain ⟨W, hW⟩ : ∃ W, pnF f l cf 0 V (muP (bI (spB f l (nxE f l t.1) 6 160765180144170663739740739734469041235173086068848)) 1 (nxP f l (nxP f l T1))) = W := ⟨_, rfl⟩
          rw [hr, hW] at hP
          rw [hr, hW]
          rcases hP with ⟨a1, a2⟩ | ⟨a1, ⟨a2, a3⟩ | ⟨a2, a3, a4, a5, a6, a7, a8⟩⟩
          · rw [if_pos a1]
            exact Or.inl ⟨rfl, pl_bad a2 8⟩
          · rw [if_neg (by rw [a1]; decide)]
            obtain ⟨gd, rfl⟩ : ∃ q, gc = q + 1 := ⟨gc - 1, by omega⟩
            exact Or.inl ⟨dr_word a2, pl_bad a3 8⟩
          · rw [if_neg (by rw [a1]; decide)]
            have a3 : r.1.2.2.2 = 1 := a3
            refine re_pl hB h5c 8 gc _ W.1 W.2 ⟨?_, ?_, ?_, ?_, ?_, ?_, ?_, c8, ?_, ?_⟩ a2 ?_ hre ?_ (by omega)
            · exact (a8 0 (by decide) (by decide)).trans c1
            · exact fun k hk => nr_cg (c2 k hk) fun j j1 j2 => a8 j (by omega) (by omega)
            · show W.1.1 313 1 = Int32.ofNat r.1.2.2.2
              rw [a3]
              exact a5
            · show r.1.2.2.2 ≤ 5
              omega
            · show ∀ k, k < r.1.2.2.2 → NRc (W.1.1 313) (115 + 7 * k) (r.1.2.2.1 k)
              rw [a3]
              exact a6
            · show ∀ k, k < r.1.2.2.2 → W.1.1 313 (150 + k) = r.2 k
              rw [a3]
              exact a7
            · exact (a8 5 (by decide) (by decide)).trans c7
            · exact (a8 2 (by decide) (by decide)).trans c9
            · exact (a8 4 (by decide) (by decide)).trans c10
            · show 1 ≤ r.1.2.2.2
              omega
            · show r.1.2.2.2 + 8 = 9
              omega
        · have e2 : ¬ er (muP (bI (spB f l (nxE f l t.1) 6 160765180144170663739740739734469041235173086068848)) 1 (nxP f l (nxP f l T1))) = 0 := by
            rw [Bool.eq_false_iff.mpr kp]
            show ¬ er (muP 0 1 (nxP f l (nxP f l T1))) = 0
            rw [er_mu0 (show er (nxP f l (nxP f l T1)) = 0 from e1)]
            decide
          have eln : lnS f l Gf cf t = none := by
            unfold lnS
            rw [if_neg hlaw, if_neg kp, if_neg (fun z => by omega)]
          rw [if_neg e2, eln]
          exact Or.inl ⟨rfl, pl_bad e2 8⟩
    · rw [if_neg k59, decide_eq_false k59] at hS
      have e1 : ¬ er (sgP f l 59 T) = 0 := fun z => by cases hS.1.mp z
      have enl : nlP f l T = sgP f l 59 T := if_neg e1
      have enb : nlB f l T 3 2195162545188048470124 = false := by
        unfold nlB
        rw [decide_eq_false e1, Bool.false_and]
      rw [enb, if_neg (by decide), enl, rs_bad e1, dr_none (fun z => by omega) k59]
      exact Or.inl ⟨rfl, e1⟩
/-- the text on both sides -/
theorem re_text {f : Nat → Int32} {l : Nat} (hB : BYT f l) (hl : l ≤ 600) (V : hV) : LNE (fsM f l z0 (sk f l 0)).2.2.1 (fsM f l z0 (sk f l 0)).2.2.2 (dsA f l) (rtB f l V) := by
  have hF := re_facts hB V
  have hA : ∀ k, k < 80 → k ≠ 0 → k ≠ 2 → (rtA f l V).1.1 313 k = 0 := fun k h1 h2 h3 => by
    unfold rtA
    rw [flF_lo h1 h2 h3]
    unfold rt0 zeV
    exact ovr_some _ (if_pos (by omega))
  unfold dsA rtB rtA1
  generalize rtA f l V = A at hF hA ⊢
  generalize fsM f l z0 (sk f l 0) = m at hF ⊢
  have h601 : (601 : Nat) = 600 + 1 := rfl
  generalize (601 : Nat) = gc at h601 ⊢
  subst h601
  rcases hF with ⟨a1, a2⟩ | ⟨a1, a2, a3, a4⟩ | ⟨a1, a2, a3, a4, a5, a6, a7, a8⟩
  · rw [if_pos a1, if_neg a2]
    exact Or.inl ⟨rfl, a2⟩
  · rw [if_neg (by rw [a1]; decide), if_neg a4, dr_word a2]
    exact Or.inl ⟨rfl, a4⟩
  · rw [if_neg (by rw [a1]; decide), if_pos (a3.1.mpr rfl)]
    have u4 : ∀ k, k ≠ 4 → (up A.1 313 4 (-1)).1 313 k = A.1.1 313 k := fun k hk => up_ne _ _ (Or.inr hk)
    have hun : mm_un ((up A.1 313 4 (-1)).1 313 0) = m.2.2.2 := by
      rw [u4 0 (by decide), a6]
      exact i_un (by omega)
    rw [hun]
    have hrs : rsF f l m.2.2.2 (up A.1 313 4 (-1)) A.2 = rsB f l m.2.2.2 (lwL f l m.2.2.2 0 9 (up A.1 313 4 (-1)) A.2) := by
      unfold rsF rsB
      rfl
    rw [hrs]
    refine re_ll hB hl a5 9 (600 + 1) (m.1, z0, 0, z0, 0, wsN m.2.2.2, -1) (up A.1 313 4 (-1)) A.2 ⟨(u4 0 (by decide)).trans a6, fun k hk => nr_cg (a7 k hk) fun j j1 j2 => u4 j (by omega), (u4 1 (by decide)).trans (hA 1 (by decide) (by decide) (by decide)), Nat.zero_le _, fun k hk => absurd hk (Nat.not_lt_zero k), fun k hk => absurd hk (Nat.not_lt_zero k), (u4 5 (by decide)).trans (hA 5 (by decide) (by decide) (by decide)), Nat.zero_le _, (u4 2 (by decide)).trans a8, up_eq _ _ _ _⟩ a3 rfl rfl rfl (by decide)
/-- readText of the reference beside what the class reads -/
theorem rt_ans {f : Nat → Int32} {l : Nat} (hB : BYT f l) (hl : l ≤ 600) (V : hV) : (dsA f l = none ∧ ¬ er (rtB f l V).2 = 0) ∨ ∃ t, dsA f l = some t ∧ er (rtB f l V).2 = 0 ∧ LNC (fsM f l z0 (sk f l 0)).2.2.1 (fsM f l z0 (sk f l 0)).2.2.2 t (rtB f l V).1 ∧ (rtF f l V).1 = bcF t.2.2.2.2.2.1 := by
  have hT := re_text hB hl V
  unfold rtF
  generalize rtB f l V = B at hT ⊢
  rcases hT with h | ⟨t, h1, h2, h3⟩
  · exact Or.inl h
  · refine Or.inr ⟨t, h1, h2, h3, ?_⟩
    rw [if_pos h2, bc_cnt]
    have e2 : (rtE B.1 B.2).1 313 2 = t.2.2.2.2.2.1 := by
      unfold rtE
      rw [pp_ne _ _ (by decide), up_ne _ _ (Or.inl (by decide)), up_ne _ _ (Or.inl (by decide)), up_ne _ _ (Or.inl (by decide)), up_ne _ _ (Or.inl (by decide))]
      exact h3.2.2.2.2.2.2.2.2.1
    dsimp only
    unfold rtH
    rw [up_ne _ _ (Or.inl (by decide)), up_ne _ _ (Or.inr (by decide))]
    unfold rtG
    rw [e2]
    refine ovr_some _ ?_
    unfold begH begG
    rw [if_neg (by decide), if_neg (by decide), if_pos rfl]
end N_zr
