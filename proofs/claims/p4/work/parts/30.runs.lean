/-! ===== runs of the mini machine, said without fuel; a heap as a table of shapes and a function of values ===== -/
/-- the script: its length, its ints -/
abbrev ww_S : Type := Nat × (Nat → Option Int32)
def ww_X (S : ww_S) : mm_X := (mm_ext, S, mm_stc, mm_fty)
/-- method j, called with as over h, ends with v over h', at any depth from D on, with enough fuel -/
def EV (S : ww_S) (D j : Nat) (as : List Value) (h : mm_H) (v : mm_V) (h' : mm_H) : Prop := ∃ F, ∀ Φ, F ≤ Φ → ∀ d, D ≤ d → mm_run (ww_X S) mm_P Φ d j as h = some (v, h')
def we_fin (M : mm_M) (r : mm_R) : Option mm_V := match r with
  | .inl (_, _, st) => mm_ans M.2.2.1 st
  | .inr ci => some (.inr ci)
/-- from pc on method M ends, and Q holds of its answer and the heap -/
def WP (S : ww_S) (D : Nat) (M : mm_M) (pc : Nat) (L : mm_L) (st : List Value) (h : mm_H) (Q : mm_V → mm_H → Prop) : Prop := ∃ v h', Q v h' ∧ ∃ r, we_fin M r = some v ∧ ∃ F, ∀ Φ, F ≤ Φ → ∀ d, D ≤ d → ∀ n, F ≤ n → mm_exe (ww_X S) mm_P (mm_run (ww_X S) mm_P Φ d) M n pc L st h = some (r, h')
def EVQ (S : ww_S) (D j : Nat) (as : List Value) (h : mm_H) (Q : mm_V → mm_H → Prop) : Prop := ∃ v h', EV S D j as h v h' ∧ Q v h'
/-- the answer is v, over h' -/
def qe (v : mm_V) (h' : mm_H) : mm_V → mm_H → Prop := fun w g => w = v ∧ g = h'
section WW
variable {S : ww_S} {D : Nat} {M : mm_M} {pc nx : Nat} {L L' : mm_L} {st st' : List Value} {h h' : mm_H} {Q : mm_V → mm_H → Prop} {ax : List Nat}
theorem EV.mono {D' j : Nat} {as : List Value} {v : mm_V} (e : EV S D j as h v h') (hD : D ≤ D') : EV S D' j as h v h' := by
  obtain ⟨F, e⟩ := e
  exact ⟨F, fun Φ hΦ d hd => e Φ hΦ d (Nat.le_trans hD hd)⟩
theorem EVQ.qe {j : Nat} {as : List Value} {v : mm_V} (e : EVQ S D j as h (qe v h')) : EV S D j as h v h' := by
  obtain ⟨w, g, e, rfl, rfl⟩ := e
  exact e
theorem EVQ.imp {j : Nat} {as : List Value} {Q' : mm_V → mm_H → Prop} (e : EVQ S D j as h Q) (k : ∀ v g, Q v g → Q' v g) : EVQ S D j as h Q' := by
  obtain ⟨w, g, e, q⟩ := e
  exact ⟨w, g, e, k w g q⟩
theorem ev_of {j : Nat} {as : List Value} (hM : mm_P j = some M) (hc : Nat.ble (mm_cats as) M.2.1 = true) (w : WP S D M 0 (mm_entry M.2.1 as) [] h Q) : EVQ S (D + 1) j as h Q := by
  obtain ⟨v, g, q, r, hr, F, e⟩ := w
  refine ⟨v, g, ⟨F, fun Φ hΦ d hd => ?_⟩, q⟩
  obtain ⟨d, rfl⟩ := Nat.exists_eq_add_of_le' (Nat.le_trans (Nat.le_add_left 1 D) hd)
  simp only [mm_run]
  rw [hM]
  dsimp only
  rw [hc]
  dsimp only
  rw [e Φ hΦ d (Nat.le_of_succ_le_succ hd) Φ hΦ]
  match r, hr with
  | .inl (a, b, st), hr =>
    have hr : mm_ans M.2.2.1 st = some v := hr
    dsimp only
    rw [hr]
  | .inr ci, hr =>
    have hr : some (Sum.inr ci) = some v := hr
    cases hr
    rfl
theorem ev_qe {j : Nat} {as : List Value} {v : mm_V} (hM : mm_P j = some M) (hc : Nat.ble (mm_cats as) M.2.1 = true) (w : WP S D M 0 (mm_entry M.2.1 as) [] h (qe v h')) : EV S (D + 1) j as h v h' := (ev_of hM hc w).qe
theorem wp_eq {L2 : mm_L} {st2 : List Value} {h2 : mm_H} (w : WP S D M pc L2 st2 h2 Q) (e1 : L = L2) (e2 : st = st2) (e3 : h = h2) : WP S D M pc L st h Q := by
  subst e1 e2 e3
  exact w
theorem WP.imp {Q' : mm_V → mm_H → Prop} (w : WP S D M pc L st h Q) (k : ∀ v g, Q v g → Q' v g) : WP S D M pc L st h Q' := by
  obtain ⟨v, g, q, r⟩ := w
  exact ⟨v, g, k v g q, r⟩
theorem WP.mono {D' : Nat} (w : WP S D M pc L st h Q) (hD : D ≤ D') : WP S D' M pc L st h Q := by
  obtain ⟨v, g, q, r, hr, F, e⟩ := w
  exact ⟨v, g, q, r, hr, F, fun Φ hΦ d hd => e Φ hΦ d (Nat.le_trans hD hd)⟩
/-- one step: no call -/
theorem wp_go {mi : mm_I} {pc' : Nat} {st' : List Value} (hk : mm_lk M.1 pc = some mi) (hs : mm_stp (ww_X S) h L st mi = some (.inl (pc', L', st', none))) (w : WP S D M pc' L' st' h Q) : WP S D M pc L st h Q := by
  obtain ⟨v, g, q, r, hr, F, e⟩ := w
  refine ⟨v, g, q, r, hr, F + 1, fun Φ hΦ d hd n hn => ?_⟩
  obtain ⟨n, rfl⟩ := Nat.exists_eq_add_of_le' (Nat.le_trans (Nat.le_add_left 1 F) hn)
  simp only [mm_exe]
  rw [hk]
  dsimp only
  rw [hs]
  exact e Φ (Nat.le_of_succ_le hΦ) d hd n (Nat.le_of_succ_le_succ hn)
theorem wp_wr {mi : mm_I} {pc' k : Nat} {c c0 : mm_C} {st' : List Value} (hk : mm_lk M.1 pc = some mi) (hs : mm_stp (ww_X S) h L st mi = some (.inl (pc', L', st', some (.inl (k, c))))) (h0 : h[k]? = some c0) (hl : mm_sl c0 = mm_sl c) (w : WP S D M pc' L' st' (h.set k c) Q) : WP S D M pc L st h Q := by
  obtain ⟨v, g, q, r, hr, F, e⟩ := w
  refine ⟨v, g, q, r, hr, F + 1, fun Φ hΦ d hd n hn => ?_⟩
  obtain ⟨n, rfl⟩ := Nat.exists_eq_add_of_le' (Nat.le_trans (Nat.le_add_left 1 F) hn)
  simp only [mm_exe]
  rw [hk]
  dsimp only
  rw [hs]
  dsimp only
  rw [h0]
  dsimp only
  rw [show Nat.beq (mm_sl c0) (mm_sl c) = true from Nat.beq_eq.mpr hl]
  exact e Φ (Nat.le_of_succ_le hΦ) d hd n (Nat.le_of_succ_le_succ hn)
theorem wp_mk {mi : mm_I} {pc' : Nat} {c : mm_C} {st' : List Value} (hk : mm_lk M.1 pc = some mi) (hs : mm_stp (ww_X S) h L st mi = some (.inl (pc', L', st', some (.inr c)))) (w : WP S D M pc' L' st' (h ++ [c]) Q) : WP S D M pc L st h Q := by
  obtain ⟨v, g, q, r, hr, F, e⟩ := w
  refine ⟨v, g, q, r, hr, F + 1, fun Φ hΦ d hd n hn => ?_⟩
  obtain ⟨n, rfl⟩ := Nat.exists_eq_add_of_le' (Nat.le_trans (Nat.le_add_left 1 F) hn)
  simp only [mm_exe]
  rw [hk]
  dsimp only
  rw [hs]
  exact e Φ (Nat.le_of_succ_le hΦ) d hd n (Nat.le_of_succ_le_succ hn)
/-- a call that returns v -/
theorem wp_callv {mi : mm_I} {j D' : Nat} {as r : List Value} {v : Value} {h1 : mm_H} (hk : mm_lk M.1 pc = some mi) (hs : mm_stp (ww_X S) h L st mi = some (.inr (.inl (j, as, r)))) (c : EV S D' j as h (.inl (some v)) h1) (hD : D' ≤ D) (w : WP S D M mi.2.2.1 L (v :: r) h1 Q) : WP S D M pc L st h Q := by
  obtain ⟨u, g, q, r9, hr, F, e⟩ := w
  obtain ⟨F', c⟩ := c
  refine ⟨u, g, q, r9, hr, F + F' + 1, fun Φ hΦ d hd n hn => ?_⟩
  obtain ⟨n, rfl⟩ := Nat.exists_eq_add_of_le' (Nat.le_trans (Nat.le_add_left 1 (F + F')) hn)
  simp only [mm_exe]
  rw [hk]
  dsimp only
  rw [hs]
  dsimp only
  rw [c Φ (by omega) d (Nat.le_trans hD hd)]
  exact e Φ (by omega) d hd n (by omega)
theorem wp_calln {mi : mm_I} {j D' : Nat} {as r : List Value} {h1 : mm_H} (hk : mm_lk M.1 pc = some mi) (hs : mm_stp (ww_X S) h L st mi = some (.inr (.inl (j, as, r)))) (c : EV S D' j as h (.inl none) h1) (hD : D' ≤ D) (w : WP S D M mi.2.2.1 L r h1 Q) : WP S D M pc L st h Q := by
  obtain ⟨u, g, q, r9, hr, F, e⟩ := w
  obtain ⟨F', c⟩ := c
  refine ⟨u, g, q, r9, hr, F + F' + 1, fun Φ hΦ d hd n hn => ?_⟩
  obtain ⟨n, rfl⟩ := Nat.exists_eq_add_of_le' (Nat.le_trans (Nat.le_add_left 1 (F + F')) hn)
  simp only [mm_exe]
  rw [hk]
  dsimp only
  rw [hs]
  dsimp only
  rw [c Φ (by omega) d (Nat.le_trans hD hd)]
  exact e Φ (by omega) d hd n (by omega)
/-- a call that throws, in a method that doesn't catch -/
theorem wp_callx {mi : mm_I} {j D' ci : Nat} {as r : List Value} {h1 : mm_H} (hk : mm_lk M.1 pc = some mi) (hs : mm_stp (ww_X S) h L st mi = some (.inr (.inl (j, as, r)))) (c : EV S D' j as h (.inr ci) h1) (hD : D' ≤ D) (hh : mm_hd M.2.2.2 pc ci = some none) (q : Q (.inr ci) h1) : WP S D M pc L st h Q := by
  obtain ⟨F', c⟩ := c
  refine ⟨.inr ci, h1, q, .inr ci, rfl, F' + 1, fun Φ hΦ d hd n hn => ?_⟩
  obtain ⟨n, rfl⟩ := Nat.exists_eq_add_of_le' (Nat.le_trans (Nat.le_add_left 1 F') hn)
  simp only [mm_exe]
  rw [hk]
  dsimp only
  rw [hs]
  dsimp only
  rw [c Φ (by omega) d (Nat.le_trans hD hd)]
  dsimp only
  rw [hh]
/-- a call that throws, caught: the method ends with 1 -/
theorem wp_callc {mi : mm_I} {j D' ci t k : Nat} {as r : List Value} {h1 : mm_H} (hk : mm_lk M.1 pc = some mi) (hs : mm_stp (ww_X S) h L st mi = some (.inr (.inl (j, as, r)))) (c : EV S D' j as h (.inr ci) h1) (hD : D' ≤ D) (hh : mm_hd M.2.2.2 pc ci = some (some (t, k))) (ht : M.2.2.1 = 1) (q : Q (.inl (some (.int 1))) h1) : WP S D M pc L st h Q := by
  obtain ⟨F', c⟩ := c
  refine ⟨.inl (some (.int 1)), h1, q, .inl (t, (mm_kill L k).set k none, [.int 1]), by unfold we_fin; dsimp only; rw [ht]; rfl, F' + 1, fun Φ hΦ d hd n hn => ?_⟩
  obtain ⟨n, rfl⟩ := Nat.exists_eq_add_of_le' (Nat.le_trans (Nat.le_add_left 1 F') hn)
  simp only [mm_exe]
  rw [hk]
  dsimp only
  rw [hs]
  dsimp only
  rw [c Φ (by omega) d (Nat.le_trans hD hd)]
  dsimp only
  rw [hh]
theorem wp_ret {mi : mm_I} {v : mm_V} (hk : mm_lk M.1 pc = some mi) (hs : mm_stp (ww_X S) h L st mi = some (.inr (.inr (.inl ())))) (ha : mm_ans M.2.2.1 st = some v) (q : Q v h) : WP S D M pc L st h Q := by
  refine ⟨v, h, q, .inl (pc, L, st), ha, 1, fun Φ hΦ d hd n hn => ?_⟩
  obtain ⟨n, rfl⟩ := Nat.exists_eq_add_of_le' hn
  simp only [mm_exe]
  rw [hk]
  dsimp only
  rw [hs]
theorem wp_throw {mi : mm_I} {ci : Nat} (hk : mm_lk M.1 pc = some mi) (hs : mm_stp (ww_X S) h L st mi = some (.inr (.inr (.inr ci)))) (hM : M.2.2.2 = []) (q : Q (.inr ci) (h ++ [.inr (.inr (ci, []))])) : WP S D M pc L st h Q := by
  refine ⟨.inr ci, _, q, .inr ci, rfl, 1, fun Φ hΦ d hd n hn => ?_⟩
  obtain ⟨n, rfl⟩ := Nat.exists_eq_add_of_le' hn
  simp only [mm_exe]
  rw [hk]
  dsimp only
  rw [hs]
  dsimp only
  rw [hM]
/-- a loop: from every state k below n the next one is reached, or the end -/
theorem wp_loop {pc : Nat} (st : Nat → mm_L × List Value × mm_H) (n : Nat) (step : ∀ k, k < n → WP S D M pc (st (k + 1)).1 (st (k + 1)).2.1 (st (k + 1)).2.2 Q → WP S D M pc (st k).1 (st k).2.1 (st k).2.2 Q) (done : WP S D M pc (st n).1 (st n).2.1 (st n).2.2 Q) : WP S D M pc (st 0).1 (st 0).2.1 (st 0).2.2 Q := by
  have : ∀ j, j ≤ n → WP S D M pc (st (n - j)).1 (st (n - j)).2.1 (st (n - j)).2.2 Q := by
    intro j
    induction j with
    | zero => intro _; exact done
    | succ j ih =>
      intro hj
      refine step (n - (j + 1)) (by omega) ?_
      rw [show n - (j + 1) + 1 = n - j by omega]
      exact ih (by omega)
  have h := this n (Nat.le_refl n)
  rw [Nat.sub_self] at h
  exact h
end WW
