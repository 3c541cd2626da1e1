section N_zq
/-! ===== the lines of a description on both sides, all of them ===== -/
/-- what was read of a description, in the reference's cells -/
def LNC (Gf : Nat → Int32) (cf : Nat) (t : dS) (V : hV) : Prop := V.1 313 0 = Int32.ofNat cf ∧ (∀ k, k < cf → NRc (V.1 313) (80 + 7 * k) (Gf k)) ∧ V.1 313 1 = Int32.ofNat t.2.2.1 ∧ t.2.2.1 ≤ 5 ∧ (∀ k, k < t.2.2.1 → NRc (V.1 313) (115 + 7 * k) (t.2.1 k)) ∧ (∀ k, k < t.2.2.1 → V.1 313 (150 + k) = t.2.2.2.1 k) ∧ V.1 313 5 = Int32.ofNat t.2.2.2.2.1 ∧ t.2.2.2.2.1 ≤ 6 ∧ V.1 313 2 = t.2.2.2.2.2.1 ∧ V.1 313 4 = t.2.2.2.2.2.2
def LNE (Gf : Nat → Int32) (cf : Nat) (o : Option dS) (R : hV × hP) : Prop := (o = none ∧ ¬ er R.2 = 0) ∨ ∃ t, o = some t ∧ er R.2 = 0 ∧ LNC Gf cf t R.1
theorem en_bad {f : Nat → Int32} {l : Nat} {X : hP} (hX : ¬ er X = 0) : ¬ er (enF f l X) = 0 := by
  unfold enF
  rw [if_neg hX]
  exact hX
theorem pl_bad {f : Nat → Int32} {l nf : Nat} {V : hV} {T : hP} (h : ¬ er T = 0) : ∀ g, ¬ er (plL f l nf g V T).2 = 0
  | 0 => h
  | g + 1 => by
    unfold plL
    rw [if_neg h]
    exact en_bad h
theorem dr_word {f : Nat → Int32} {l : Nat} {Gf : Nat → Int32} {cf g : Nat} {t : dS} (h : ¬ wl f l t.1 = 0) : dRd f l Gf cf (g + 1) t = none := by
  have h2 := wd_not h
  unfold dRd
  rw [if_neg (fun z => h2.1 z.1), if_neg h2.2]
theorem dr_line {f : Nat → Int32} {l : Nat} {Gf : Nat → Int32} {cf g : Nat} {t : dS} (h : kdE f l t.1 = 59) : dRd f l Gf cf (g + 1) t = match lnS f l Gf cf t with
    | some s => dRd f l Gf cf g s
    | none => none := by
  have h2 : ¬ kdE f l t.1 = 267 := by
    rw [h]
    decide
  have e : dRd f l Gf cf (g + 1) t = if kdE f l t.1 = 267 ∧ 0 < t.2.2.1 then some t else if kdE f l t.1 = 59 then (match lnS f l Gf cf t with
    | some s => dRd f l Gf cf g s
    | none => none) else none := rfl
  rw [e, if_neg (fun z => h2 z.1), if_pos h]
theorem dr_none {f : Nat → Int32} {l : Nat} {Gf : Nat → Int32} {cf g : Nat} {t : dS} (h : ¬ (kdE f l t.1 = 267 ∧ 0 < t.2.2.1)) (h2 : ¬ kdE f l t.1 = 59) : dRd f l Gf cf (g + 1) t = none := by
  have e : dRd f l Gf cf (g + 1) t = if kdE f l t.1 = 267 ∧ 0 < t.2.2.1 then some t else if kdE f l t.1 = 59 then (match lnS f l Gf cf t with
    | some s => dRd f l Gf cf g s
    | none => none) else none := rfl
  rw [e, if_neg h, if_neg h2]
theorem dr_end {f : Nat → Int32} {l : Nat} {Gf : Nat → Int32} {cf g : Nat} {t : dS} (h : kdE f l t.1 = 267) (h2 : 0 < t.2.2.1) : dRd f l Gf cf (g + 1) t = some t := by
  have e : dRd f l Gf cf (g + 1) t = if kdE f l t.1 = 267 ∧ 0 < t.2.2.1 then some t else if kdE f l t.1 = 59 then (match lnS f l Gf cf t with
    | some s => dRd f l Gf cf g s
    | none => none) else none := rfl
  rw [e, if_pos ⟨h, h2⟩]
/-- a line's word and a person's line -/
theorem ln_per {f : Nat → Int32} {l : Nat} {Gf : Nat → Int32} {cf : Nat} {t : dS} (hlaw : ¬ (t.2.2.1 = 0 ∧ spB f l (nxE f l t.1) 3 2195162545188048470124 = true)) (hper : spB f l (nxE f l t.1) 6 160765180144170663739740739734469041235173086068848 = true) : lnS f l Gf cf t = if (psS f l Gf cf t.2.1 t.2.2.1 t.2.2.2.1 (nxE f l t.1)).1.2.1 = true then none else some ((psS f l Gf cf t.2.1 t.2.2.1 t.2.2.2.1 (nxE f l t.1)).1.1, (psS f l Gf cf t.2.1 t.2.2.1 t.2.2.2.1 (nxE f l t.1)).1.2.2.1, (psS f l Gf cf t.2.1 t.2.2.1 t.2.2.2.1 (nxE f l t.1)).1.2.2.2, (psS f l Gf cf t.2.1 t.2.2.1 t.2.2.2.1 (nxE f l t.1)).2, t.2.2.2.2) := by
  unfold lnS
  rw [if_neg hlaw, if_pos hper]
/-- persons' lines on both sides -/
theorem re_pl {f : Nat → Int32} {l : Nat} {Gf : Nat → Int32} {cf : Nat} (hB : BYT f l) (h5c : cf ≤ 5) : ∀ (g gc : Nat) (t : dS) (V : hV) (T : hP), LNC Gf cf t V → RE f l t.1 false T → 1 ≤ t.2.2.1 → t.2.2.2.2.2.2 = -1 → t.2.2.1 + g = 9 → g + 2 ≤ gc → LNE Gf cf (dRd f l Gf cf gc t) (plL f l cf g V T)
  | 0, gc, t, V, T, hC, _, _, _, hm, _ => by
    have := hC.2.2.2.1
    omega
  | g + 1, gc, t, V, T, hC, hR, h1, hre, hm, hg => by
    obtain ⟨gc, rfl⟩ : ∃ q, gc = q + 1 := ⟨gc - 1, by omega⟩
    obtain ⟨c1, c2, c3, c4, c5, c6, c7, c8, c9, c10⟩ := id hC
    have e0 := hR.1.mpr rfl
    obtain ⟨hp, hT⟩ := hR.2 rfl
    unfold plL
    rw [if_pos e0, ← hp]
    by_cases k267 : kdE f l t.1 = 267
    · rw [if_pos ((kd_267 hB).mp k267), dr_end k267 (by omega)]
      refine Or.inr ⟨t, rfl, ?_, hC⟩
      have e1 : er (nxP f l T) = 0 := e0
      unfold enF
      rw [if_pos e1, show sk f l (nxP f l T).1 = sk f l (sk f l T.1) from rfl, sk_sk, ← hp, if_pos ((kd_267 hB).mp k267), er_mu1]
      exact e0
    · rw [if_neg (fun z => k267 ((kd_267 hB).mpr z))]
      have hS := re_sg (c := 59) (by decide) (by decide) (by decide) (re_nx hR)
      by_cases k59 : kdE f l t.1 = 59
      · rw [if_pos k59, decide_eq_true k59] at hS
        have hS : RE f l (nxE f l t.1) false (sgP f l 59 (nxP f l T)) := hS
        obtain ⟨T1, hT1⟩ : ∃ T1, sgP f l 59 (nxP f l T) = T1 := ⟨_, rfl⟩
        rw [hT1] at hS ⊢
        have e1 := hS.1.mpr rfl
        rw [re_se lw_per hS, dr_line k59]
        have hun : mm_un (V.1 313 1) = t.2.2.1 := by
          rw [c3]
          exact i_un (by omega)
        have hlaw : ¬ (t.2.2.1 = 0 ∧ spB f l (nxE f l t.1) 3 2195162545188048470124 = true) := fun z => by omega
        by_cases kp : spB f l (nxE f l t.1) 6 160765180144170663739740739734469041235173086068848 = true
        · rw [if_pos kp, ln_per hlaw kp, hun]
          have hw : ¬ wl f l (nxE f l t.1) = 0 := by
            have := (sp_0 lw_per (by decide) kp).1
            omega
          have hP := re_per (T := nxP f l T1) (Gp := t.2.1) (sn := t.2.2.2.1) hB h5c c4 e1 (re_wd hS hw) c2 c5 c6
          obtain ⟨r, hr⟩ : ∃ r, psS f l Gf cf t.2.1 t.2.2.1 t.2.2.2.1 (nxE f l t.1) = r := ⟨_, rfl⟩
          obtain ⟨W, hW⟩ : ∃ W, pnF f l cf t.2.2.1 V (nxP f l T1) = W := ⟨_, rfl⟩
          rw [hr, hW] at hP
          rw [hr, hW]
          rcases hP with ⟨a1, a2⟩ | ⟨a1, ⟨a2, a3⟩ | ⟨a2, a3, a4, a5, a6, a7, a8⟩⟩
          · rw [if_pos a1]
            exact Or.inl ⟨rfl, pl_bad a2 g⟩
          · rw [if_neg (by rw [a1]; decide)]
            obtain ⟨gd, rfl⟩ : ∃ q, gc = q + 1 := ⟨gc - 1, by omega⟩
            exact Or.inl ⟨dr_word a2, pl_bad a3 g⟩
          · rw [if_neg (by rw [a1]; decide)]
            refine re_pl hB h5c g gc _ W.1 W.2 ⟨?_, ?_, ?_, ?_, ?_, ?_, ?_, c8, ?_, ?_⟩ a2 ?_ hre ?_ (by omega)
            · exact (a8 0 (by decide) (by decide)).trans c1
            · exact fun k hk => nr_cg (c2 k hk) fun j j1 j2 => a8 j (by omega) (by omega)
            · show W.1.1 313 1 = Int32.ofNat r.1.2.2.2
              rw [a3]
              exact a5
            · show r.1.2.2.2 ≤ 5
              omega
            · show ∀ k, k < r.1.2.2.2 → NRc (W.1.1 313) (115 + 7 * k) (r.1.2.2.1 k)
              rw [a3]
              exact a6
            · show ∀ k, k < r.1.2.2.2 → W.1.1 313 (150 + k) = r.2 k
              rw [a3]
              exact a7
            · exact (a8 5 (by decide) (by decide)).trans c7
            · exact (a8 2 (by decide) (by decide)).trans c9
            · exact (a8 4 (by decide) (by decide)).trans c10
            · show 1 ≤ r.1.2.2.2
              omega
            · show r.1.2.2.2 + g = 9
              omega
        · rw [if_neg kp]
          have hS1 := re_nx hS
          have ere : er (reP f l T1) = 0 ↔ spB f l (nxE f l t.1) 4 8556641553329882635686364840050 = true := by
            unfold reP
            rw [re_se lw_real hS1]
            cases c : spB f l (nxE f l t.1) 4 8556641553329882635686364840050 with
            | true =>
              refine ⟨fun _ => rfl, fun _ => ?_⟩
              show er (muP 1 1 (nxP f l (nxP f l T1))) = 0
              rw [er_mu1]
              exact e1
            | false =>
              refine ⟨fun z => ?_, fun z => by cases z⟩
              have z : er (muP 0 1 (nxP f l (nxP f l T1))) = 0 := z
              rw [er_mu0 (show er (nxP f l (nxP f l T1)) = 0 from e1)] at z
              exact absurd z (by decide)
          by_cases kr : spB f l (nxE f l t.1) 4 8556641553329882635686364840050 = true
          · rw [if_pos (ere.mpr kr)]
            have hw : ¬ wl f l (nxE f l t.1) = 0 := by
              have := (sp_0 lw_real (by decide) kr).1
              omega
            have hgo : RE f l (nxE f l (nxE f l t.1)) false (goP (reP f l T1)) := by
              unfold reP
              rw [re_se lw_real hS1, kr]
              exact re_go hS1 hw 1
            have eln : lnS f l Gf cf t = if (rlS f l Gf cf t.2.2.2.2.2.1 (nxE f l t.1)).2.1 = true then none else some ((rlS f l Gf cf t.2.2.2.2.2.1 (nxE f l t.1)).1, t.2.1, t.2.2.1, t.2.2.2.1, t.2.2.2.2.1, t.2.2.2.2.2.1, (rlS f l Gf cf t.2.2.2.2.2.1 (nxE f l t.1)).2.2) := by
              unfold lnS
              rw [if_neg hlaw, if_neg kp, if_pos ⟨by omega, kr⟩]
            have u4 : ∀ k, k ≠ 4 → (up V 313 4 (-1)).1 313 k = V.1 313 k := fun k hk => up_ne _ _ (Or.inr hk)
            have hRl := re_real (b := (reP f l T1).2.1) (V := up V 313 4 (-1)) (fi := t.2.2.2.2.2.1) hB h5c hgo (fun k hk => nr_cg (c2 k hk) fun j j1 j2 => u4 j (by omega)) ((u4 2 (by decide)).trans c9)
            rw [eln]
            obtain ⟨r, hr⟩ : ∃ r, rlS f l Gf cf t.2.2.2.2.2.1 (nxE f l t.1) = r := ⟨_, rfl⟩
            have hfr : ∀ k, k ≠ 4 → (rlF f l cf (reP f l T1).2.1 (up V 313 4 (-1)) (reP f l T1)).1.1 313 k = V.1 313 k := fun k hk => (rlF_fr (Or.inr hk)).trans (u4 k hk)
            rw [hr] at hRl ⊢
            obtain ⟨W, hW⟩ : ∃ W, rlF f l cf (reP f l T1).2.1 (up V 313 4 (-1)) (reP f l T1) = W := ⟨_, rfl⟩
            rw [hW] at hRl hfr ⊢
            rcases hRl with ⟨a1, a2⟩ | ⟨a1, a2, a3, a4⟩
            · rw [if_pos a1]
              exact Or.inl ⟨rfl, a2⟩
            · rw [if_neg (by rw [a1]; decide)]
              obtain ⟨gd, rfl⟩ : ∃ q, gc = q + 1 := ⟨gc - 1, by omega⟩
              refine Or.inr ⟨_, dr_end a2 (by show 0 < t.2.2.1; omega), a3, ?_⟩
              exact ⟨(hfr 0 (by decide)).trans c1, fun k hk => nr_cg (c2 k hk) fun j j1 j2 => hfr j (by omega), (hfr 1 (by decide)).trans c3, c4, fun k hk => nr_cg (c5 k hk) fun j j1 j2 => hfr j (by omega), fun k hk => (hfr _ (by omega)).trans (c6 k hk), (hfr 5 (by decide)).trans c7, c8, (hfr 2 (by decide)).trans c9, a4⟩
          · have eln : lnS f l Gf cf t = none := by
              unfold lnS
              rw [if_neg hlaw, if_neg kp, if_neg (fun z => kr z.2)]
            rw [eln, if_neg (fun z => kr (ere.mp z))]
            exact Or.inl ⟨rfl, fun z => kr (ere.mp z)⟩
      · rw [if_neg k59, decide_eq_false k59] at hS
        have e1 : ¬ er (sgP f l 59 (nxP f l T)) = 0 := fun z => by cases hS.1.mp z
        have hse : ∀ n N, seB f l (sgP f l 59 (nxP f l T)) n N = false := fun n N => by
          unfold seB
          rw [decide_eq_false e1, Bool.false_and]
        have ere : ¬ er (reP f l (sgP f l 59 (nxP f l T))) = 0 := fun z => e1 (mu_er (by decide) z)
        rw [hse, if_neg (by decide), if_neg ere, dr_none (fun z => k267 z.1) k59]
        exact Or.inl ⟨rfl, ere⟩
end N_zq
