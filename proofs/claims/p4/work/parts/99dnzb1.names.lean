section N_zb
/-! ===== names of both sides ===== -/
theorem kd_w {f : Nat → Int32} {l p : Nat} (hB : BYT f l) (h : kdE f l p = 256) : ¬ wl f l p = 0 := by
  have := (nm_pk h hB).1
  omega
theorem re_go {f : Nat → Int32} {l p : Nat} {T : hP} (h : RE f l p false T) (hw : ¬ wl f l p = 0) (x : Int32) : RE f l (nxE f l p) false (goP (muP 1 x (nxP f l T))) := by
  obtain ⟨h1, h2⟩ := re_wd h hw
  refine ⟨⟨fun _ => rfl, fun _ => ?_⟩, h2⟩
  show er (muP 1 x (nxP f l T)) = 0
  rw [er_mu1]
  exact h.1.mpr rfl
theorem re_rn {G Gc f : Nat → Int32} {l p bs c : Nat} {T : hP} (hB : BYT f l) (h : RE f l p false T) (hR : ∀ k, k < c → NRc G (bs + 7 * k) (Gc k)) : (kdE f l p = 256 ∧ (rnP G f l bs c T).1 = fdF Gc c (nmE f l p) ∧ (rnP G f l bs c T).2 = goP (muP 1 1 (nxP f l T)) ∧ RE f l (nxE f l p) false (rnP G f l bs c T).2) ∨ (¬ kdE f l p = 256 ∧ (rnP G f l bs c T).1 = -1 ∧ ¬ er (rnP G f l bs c T).2 = 0) := by
  have e0 := h.1.mpr rfl
  obtain ⟨hp, hT⟩ := h.2 rfl
  unfold rnP
  rw [if_pos e0]
  by_cases k : kdE f l p = 256
  · have k2 : nmOK f l T.1 = true := (nm_ok hB).mp (by rw [← hp]; exact k)
    rw [if_pos k2]
    refine Or.inl ⟨k, ?_, rfl, re_go h (kd_w hB k) 1⟩
    have e := fd_rn hB k hR
    rw [hp] at e ⊢
    exact e
  · have k2 : ¬ nmOK f l T.1 = true := fun z => k (by rw [hp]; exact (nm_ok hB).mpr z)
    rw [if_neg k2]
    refine Or.inr ⟨k, rfl, ?_⟩
    show ¬ er (muP 0 1 (nxP f l T)) = 0
    rw [er_mu0 (show er (nxP f l T) = 0 from e0)]
    decide
/-- a known name taken -/
theorem re_kn {G Gc f : Nat → Int32} {l p bs c : Nat} {T : hP} (hB : BYT f l) (h : RE f l p false T) (hR : ∀ k, k < c → NRc G (bs + 7 * k) (Gc k)) : RE f l (if kwN f l p Gc c = -1 then p else nxE f l p) (decide (kwN f l p Gc c = -1)) (knP G f l bs c T).2 ∧ (¬ kwN f l p Gc c = -1 → (knP G f l bs c T).1 = kwN f l p Gc c) := by
  unfold knP kwN
  rcases re_rn hB h hR with ⟨k, r1, r2, r3⟩ | ⟨k, r1, r2⟩
  · rw [if_pos k, r1]
    by_cases c1 : fdF Gc c (nmE f l p) = -1
    · rw [if_pos c1, if_pos c1, decide_eq_true c1]
      refine ⟨RE.b ?_, fun z => absurd c1 z⟩
      rw [er_mu0 (r3.1.mpr rfl)]
      decide
    · rw [if_neg c1, if_neg c1, decide_eq_false c1]
      obtain ⟨a, b⟩ := r3
      have e9 : er (muP 1 2 (rnP G f l bs c T).2) = 0 := by rw [er_mu1]; exact a.mpr rfl
      exact ⟨⟨⟨fun _ => rfl, fun _ => e9⟩, b⟩, fun _ => if_pos e9⟩
  · rw [if_neg k, r1, if_pos rfl, if_pos rfl, decide_eq_true rfl]
    exact ⟨RE.b fun z => r2 (mu_er (by decide) z), fun z => absurd rfl z⟩
/-- a new name taken -/
theorem re_nw {G Gc f : Nat → Int32} {l p bs c : Nat} {T : hP} (hB : BYT f l) (h : RE f l p false T) (hR : ∀ k, k < c → NRc G (bs + 7 * k) (Gc k)) : RE f l (if nwB f l p Gc c = true then nxE f l p else p) (!(nwB f l p Gc c)) (flX c (rnP G f l bs c T)) ∨ (¬ c ≤ 5) := by
  by_cases c5 : c ≤ 5
  · refine Or.inl ?_
    unfold flX
    rcases re_rn hB h hR with ⟨k, r1, r2, r3⟩ | ⟨k, r1, r2⟩
    · rw [r1]
      by_cases c1 : fdF Gc c (nmE f l p) = -1
      · rw [if_pos c1]
        by_cases c2 : c = 5
        · have hn : nwB f l p Gc c = false := by
            unfold nwB
            rw [decide_eq_true c2]
            simp
          rw [hn, if_neg (show ¬ c < 5 by omega)]
          refine RE.b ?_
          rw [er_mu0 (by rw [er_mu1]; exact r3.1.mpr rfl)]
          decide
        · have hn : nwB f l p Gc c = true := nw_t k c1 c2
          rw [hn, if_pos rfl, if_pos (show c < 5 by omega)]
          obtain ⟨a, b⟩ := r3
          refine ⟨⟨fun _ => rfl, fun _ => ?_⟩, b⟩
          rw [er_mu1, er_mu1]
          exact a.mpr rfl
      · have hn : nwB f l p Gc c = false := by
          unfold nwB
          rw [decide_eq_false c1]
          simp
        rw [hn, if_neg c1]
        refine RE.b fun z => ?_
        have z2 := mu_er (by decide) z
        rw [er_mu0 (r3.1.mpr rfl)] at z2
        exact absurd z2 (by decide)
    · have hn : nwB f l p Gc c = false := by
        unfold nwB
        rw [decide_eq_false k]
        simp
      rw [hn]
      exact RE.b fun z => r2 (mu_er (by decide) (mu_er (by decide) z))
  · exact Or.inr c5
end N_zb
