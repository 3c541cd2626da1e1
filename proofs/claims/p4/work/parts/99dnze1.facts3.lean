section N_ze
/-! ===== the line of the facts on both sides, whole ===== -/
theorem fl_bad {f : Nat → Int32} {l n : Nat} {V : hV} {T : hP} (h : ¬ er T = 0) : ∀ g, ¬ er (flF f l g n V T).2 = 0
  | 0 => h
  | g + 1 => by
    have hF : flF f l (g + 1) n V T = _ := flF.eq_2 f l n V T g
    have hr : rnP (V.1 313) f l 80 n T = (-1, T) := if_neg h
    have hq : ¬ er (flX n (rnP (V.1 313) f l 80 n T)) = 0 := fun z => by
      have z2 := mu_er (by decide) (mu_er (by decide) z)
      rw [hr] at z2
      exact h z2
    rw [hF, if_neg hq]
    exact hq
theorem lw_f : LW 5 39132472205098390151768970679218299994214 = true := by decide
theorem re_facts {f : Nat → Int32} {l : Nat} (hB : BYT f l) (V : hV) : FLR f l (fsM f l z0 (sk f l 0)) (rtA f l V) := by
  unfold fsM rtA
  have hT : RE f l (sk f l 0) false (rtT V) := RE.g (show er (rtT V) = 0 from rfl) rfl (Nat.zero_le l)
  have hse : seB f l (rtT V) 5 39132472205098390151768970679218299994214 = spB f l (sk f l 0) 5 39132472205098390151768970679218299994214 := by
    unfold seB
    rw [show er (rtT V) = 0 from rfl, decide_eq_true rfl, Bool.true_and]
    exact se_sp lw_f
  unfold taP
  rw [hse]
  cases c : spB f l (sk f l 0) 5 39132472205098390151768970679218299994214 with
  | true =>
    rw [if_pos rfl, if_pos rfl]
    have hw : ¬ wl f l (sk f l 0) = 0 := by
      have := (sp_0 lw_f (by decide) c).1
      omega
    have h := re_wd hT hw
    have h2 : RE f l (nxE f l (sk f l 0)) false (muP (bI true) 1 (goP (nxP f l (rtT V)))) := by
      refine ⟨⟨fun _ => rfl, fun _ => ?_⟩, h.2⟩
      show er (muP 1 1 (goP (nxP f l (rtT V)))) = 0
      rw [er_mu1]
      exact h.1.mpr rfl
    exact re_fl hB 6 0 6 _ _ _ z0 rfl (Nat.zero_le _) (Nat.le_refl _) h2 fun k hk => absurd hk (Nat.not_lt_zero _)
  | false =>
    rw [if_neg (by decide), if_neg (by decide)]
    have hn : (nwS f l (sk f l 0, true, z0, 0)).2.1 = true := by
      unfold nwS
      split <;> rfl
    rw [fc_er hn]
    refine Or.inl ⟨hn, fl_bad ?_ 6⟩
    show ¬ er (muP 0 1 (nxP f l (rtT V))) = 0
    rw [er_mu0 (show er (nxP f l (rtT V)) = 0 from rfl)]
    decide
end N_ze
