/-! ===== whole runs over boxes ===== -/
section MW
variable {E : my_E} {xs : Nat → Int32} {X X' : mm_X} {P : Nat → Option mm_M} {callee callee' : Nat → List Value → mm_H → Option (mm_V × mm_H)}
def my_av (md : Bool) (xs : Nat → Int32) (v v' : mm_V) : Prop := match v with
  | .inl none => v' = .inl none
  | .inl (some x) => ∃ y, v' = .inl (some y) ∧ my_vr md xs x y
  | .inr c => v' = .inr c
def my_rr (md : Bool) (xs : Nat → Int32) (r r' : mm_R) : Prop := match r with
  | .inl (pc, L, st) => ∃ L' st', r' = .inl (pc, L', st') ∧ my_lr md xs L L' ∧ my_sr md xs st st'
  | .inr c => r' = .inr c
def my_cl (E : my_E) (xs : Nat → Int32) (callee callee' : Nat → List Value → mm_H → Option (mm_V × mm_H)) : Prop := ∀ j as as' h h' v h1, my_sr E.1 xs as as' → my_hr h h' → callee j as h = some (v, h1) → ∃ v' h1', callee' j as' h' = some (v', h1') ∧ my_av E.1 xs v v' ∧ my_hr h1 h1'
def my_oo (E : my_E) (xs : Nat → Int32) (X' : mm_X) (P : Nat → Option mm_M) (callee' : Nat → List Value → mm_H → Option (mm_V × mm_H)) (M : mm_M) (pc : Nat) (L' : mm_L) (st' : List Value) (h' : mm_H) (o : Option (my_S ⊕ (mm_R × mm_H))) : Prop := match o with
  | none => True
  | some (.inl s) => ∃ L2' st2' h2', my_lr E.1 xs s.2.1 L2' ∧ my_sr E.1 xs s.2.2.1 st2' ∧ my_hr s.2.2.2 h2' ∧ ∀ n, mm_exe X' P callee' M (n + 1) pc L' st' h' = mm_exe X' P callee' M n s.1 L2' st2' h2'
  | some (.inr q) => ∃ r' h2', my_rr E.1 xs q.1 r' ∧ my_hr q.2 h2' ∧ ∀ n, mm_exe X' P callee' M (n + 1) pc L' st' h' = some (r', h2')
theorem my_one_ok (hX1 : X'.1 = X.1) (hX3 : X'.2.2 = X.2.2) (hXt : ∀ k c, X.1 k = some c → my_nt c = true) (hXn : ∀ k, X.2.1.2 k = none) (hE : my_Ok E xs X') (hc : my_cl E xs callee callee') {M : mm_M} {pc : Nat} {L L' : mm_L} {st st' : List Value} {h h' : mm_H} (hh : my_hr h h') (hl : my_lr E.1 xs L L') (hst : my_sr E.1 xs st st') : my_oo E xs X' P callee' M pc L' st' h' (my_one E X callee M pc L st h) := by
  unfold my_one
  cases hlk : mm_lk M.1 pc with
  | none => exact trivial
  | some mi =>
    dsimp only
    cases hf : mo_tab mi with
    | none => exact trivial
    | some f =>
     dsimp only
     cases hs9 : f E X h L st with
     | none => exact trivial
     | some a =>
      have hs := (mo_tab_ok hf E X h L st).symm.trans hs9
      obtain ⟨pc0, i, nx, ax⟩ := mi
      obtain ⟨a', e1, e2⟩ := my_step hX1 hX3 hXt hXn hE hh hl hst hs
      match a, e2 with
      | .inl (pc2, L2, st2, none), e2 =>
        obtain ⟨L2', st2', op', rfl, g1, g2, g3⟩ := e2
        have g3 : op' = none := g3
        subst g3
        exact ⟨L2', st2', h', g1, g2, hh, fun n => by simp only [mm_exe]; rw [hlk]; dsimp only; rw [e1]⟩
      | .inl (pc2, L2, st2, some (.inl (k, c))), e2 =>
        obtain ⟨L2', st2', op', rfl, g1, g2, c', e3, g3⟩ := e2
        subst e3
        dsimp only
        cases hk : h[k]? with
        | none => exact trivial
        | some c0 =>
          dsimp only
          cases hb : Nat.beq (mm_sl c0) (mm_sl c) with
          | false => exact trivial
          | true =>
            obtain ⟨c0', e4, e5⟩ := my_fr_get hh hk
            exact ⟨L2', st2', h'.set k c', g1, g2, my_fr_set g3 hh k, fun n => by simp only [mm_exe]; rw [hlk]; dsimp only; rw [e1]; dsimp only; rw [e4]; dsimp only; rw [my_sl e5, my_sl g3, hb]⟩
      | .inl (pc2, L2, st2, some (.inr c)), e2 =>
        obtain ⟨L2', st2', op', rfl, g1, g2, c', e3, g3⟩ := e2
        subst e3
        exact ⟨L2', st2', h' ++ [c'], g1, g2, my_fr_app (k := [c]) (k' := [c']) ⟨g3, trivial⟩ hh, fun n => by simp only [mm_exe]; rw [hlk]; dsimp only; rw [e1]⟩
      | .inr (.inl (j, as, r)), e2 =>
        obtain ⟨as', r', rfl, g1, g2⟩ := e2
        dsimp only
        cases hcc : callee j as h with
        | none => exact trivial
        | some q =>
          obtain ⟨v, h1⟩ := q
          obtain ⟨v', h1', k1, k2, k3⟩ := hc _ _ _ _ _ _ _ g1 hh hcc
          match v, k2 with
          | .inl none, k2 =>
            have k2 : v' = .inl none := k2
            subst k2
            exact ⟨L', r', h1', hl, g2, k3, fun n => by simp only [mm_exe]; rw [hlk]; dsimp only; rw [e1]; dsimp only; rw [k1]⟩
          | .inl (some x), k2 =>
            obtain ⟨y, rfl, k4⟩ := k2
            exact ⟨L', y :: r', h1', hl, ⟨k4, g2⟩, k3, fun n => by simp only [mm_exe]; rw [hlk]; dsimp only; rw [e1]; dsimp only; rw [k1]⟩
          | .inr ci, k2 =>
            have k2 : v' = .inr ci := k2
            subst k2
            dsimp only
            cases hd : mm_hd M.2.2.2 pc ci with
            | none => exact trivial
            | some o =>
              cases o with
              | none => exact ⟨.inr ci, h1', rfl, k3, fun n => by simp only [mm_exe]; rw [hlk]; dsimp only; rw [e1]; dsimp only; rw [k1]; dsimp only; rw [hd]⟩
              | some tk =>
                obtain ⟨t, k⟩ := tk
                exact ⟨.inl (t, (mm_kill L' k).set k none, [.int 1]), h1', ⟨_, _, rfl, my_fr_set (R := my_or E.1 xs) (a := none) (b := none) rfl (my_kill hl k) k, ⟨rfl, trivial⟩⟩, k3, fun n => by simp only [mm_exe]; rw [hlk]; dsimp only; rw [e1]; dsimp only; rw [k1]; dsimp only; rw [hd]⟩
      | .inr (.inr (.inl u)), e2 =>
        have e2 : a' = .inr (.inr (.inl u)) := e2
        subst e2
        exact ⟨.inl (pc, L', st'), h', ⟨_, _, rfl, hl, hst⟩, hh, fun n => by simp only [mm_exe]; rw [hlk]; dsimp only; rw [e1]⟩
      | .inr (.inr (.inr ci)), e2 =>
        have e2 : a' = .inr (.inr (.inr ci)) := e2
        subst e2
        dsimp only
        cases hM : M.2.2.2 with
        | nil => exact ⟨.inr ci, h' ++ [.inr (.inr (ci, []))], rfl, my_fr_app (k := [.inr (.inr (ci, []))]) (k' := [.inr (.inr (ci, []))]) ⟨rfl, trivial⟩ hh, fun n => by simp only [mm_exe]; rw [hlk]; dsimp only; rw [e1]; dsimp only; rw [hM]⟩
        | cons z zs => exact trivial
theorem my_exe_ok (hX1 : X'.1 = X.1) (hX3 : X'.2.2 = X.2.2) (hXt : ∀ k c, X.1 k = some c → my_nt c = true) (hXn : ∀ k, X.2.1.2 k = none) (hE : my_Ok E xs X') (hc : my_cl E xs callee callee') {M : mm_M} : ∀ n pc L st h L' st' h' r h1, my_hr h h' → my_lr E.1 xs L L' → my_sr E.1 xs st st' → my_exe E X callee M n pc L st h = some (r, h1) → ∃ r' h1', mm_exe X' P callee' M n pc L' st' h' = some (r', h1') ∧ my_rr E.1 xs r r' ∧ my_hr h1 h1' := by
  intro n
  induction n with
  | zero => intro pc L st h L' st' h' r h1 _ _ _ he; cases he
  | succ n ih =>
    intro pc L st h L' st' h' r h1 hh hl hst he
    have K := my_one_ok (P := P) (M := M) (pc := pc) hX1 hX3 hXt hXn hE hc hh hl hst
    simp only [my_exe] at he
    cases ho : my_one E X callee M pc L st h with
    | none => rw [ho] at he; cases he
    | some q =>
      rw [ho] at he K
      match q, he, K with
      | .inl (pc2, L2, st2, h2), he, K =>
        obtain ⟨L2', st2', h2', g1, g2, g3, g4⟩ := K
        obtain ⟨r', h1', k1, k2, k3⟩ := ih _ _ _ _ _ _ _ _ _ g3 g1 g2 he
        exact ⟨r', h1', by rw [g4]; exact k1, k2, k3⟩
      | .inr (r0, h0), he, K =>
        cases he
        obtain ⟨r', h2', g1, g2, g3⟩ := K
        exact ⟨r', h2', g3 n, g1, g2⟩
theorem my_pre_ok (hX1 : X'.1 = X.1) (hX3 : X'.2.2 = X.2.2) (hXt : ∀ k c, X.1 k = some c → my_nt c = true) (hXn : ∀ k, X.2.1.2 k = none) (hE : my_Ok E xs X') (hc : my_cl E xs callee callee') {M : mm_M} : ∀ k (s : my_S) L' st' h' s1, my_hr s.2.2.2 h' → my_lr E.1 xs s.2.1 L' → my_sr E.1 xs s.2.2.1 st' → my_pre E X callee M k s = some s1 → ∃ L1' st1' h1', my_hr s1.2.2.2 h1' ∧ my_lr E.1 xs s1.2.1 L1' ∧ my_sr E.1 xs s1.2.2.1 st1' ∧ ∀ n, mm_exe X' P callee' M (n + k) s.1 L' st' h' = mm_exe X' P callee' M n s1.1 L1' st1' h1' := by
  intro k
  induction k with
  | zero =>
    intro s L' st' h' s1 hh hl hst he
    cases he
    exact ⟨L', st', h', hh, hl, hst, fun n => rfl⟩
  | succ k ih =>
    intro s L' st' h' s1 hh hl hst he
    have K := my_one_ok (P := P) (M := M) (pc := s.1) hX1 hX3 hXt hXn hE hc hh hl hst
    simp only [my_pre] at he
    split at he
    · rename_i s' ho
      rw [ho] at K
      obtain ⟨L2', st2', h2', g1, g2, g3, g4⟩ := K
      obtain ⟨L1', st1', h1', k1, k2, k3, k4⟩ := ih s' _ _ _ _ g3 g1 g2 he
      exact ⟨L1', st1', h1', k1, k2, k3, fun n => by rw [← Nat.add_assoc, g4, k4]⟩
    · cases he
theorem my_ans_ok {t : Nat} {st st' : List Value} {v : mm_V} (hst : my_sr E.1 xs st st') (hs : my_ans E t st = some v) : ∃ v', mm_ans t st' = some v' ∧ my_av E.1 xs v v' := by
  unfold my_ans at hs
  split at hs
  · cases hs
  · rename_i hm
    unfold mm_ans at hs
    split at hs
    · split at hs
      · cases hs
        cases st' with
        | nil => exact ⟨_, rfl, rfl⟩
        | cons b q => exact hst.elim
      · cases hs
    · rename_i hn
      split at hs
      · rename_i v0
        split at hs
        · rename_i hok
          cases hs
          obtain ⟨u, q, rfl, e1, e2⟩ := my_cons hst
          cases q with
          | cons b q => exact e2.elim
          | nil =>
            have hu : u = v0 := by
              refine Classical.byContradiction fun hne => ?_
              unfold mm_okR at hok
              split at hok
              all_goals first
                | exact hne e1
                | (cases hok; done)
                | (have hm : E.1 = false := by
                    cases hE1 : E.1 with
                    | false => rfl
                    | true => rw [hE1] at hm; cases hm
                   rw [hm] at e1
                   exact hne e1)
            subst hu
            refine ⟨.inl (some u), ?_, u, rfl, e1⟩
            unfold mm_ans
            split
            · exact (hn rfl).elim
            · dsimp only
              rw [hok]
        · cases hs
      · cases hs
theorem my_cats {md : Bool} : ∀ {as as' : List Value}, my_sr md xs as as' → mm_cats as' = mm_cats as
  | [], [], _ => rfl
  | v :: r, u :: q, h => by
    unfold mm_cats
    rw [my_cat h.1, my_cats (as := r) (as' := q) h.2]
  | [], _ :: _, h => h.elim
  | _ :: _, [], h => h.elim
theorem my_entry {md : Bool} : ∀ {as as' : List Value}, my_sr md xs as as' → ∀ n, my_lr md xs (mm_entry n as) (mm_entry n as')
  | [], [], _, n => my_fr_rep (R := my_or md xs) (a := none) (b := none) rfl n
  | v :: r, u :: q, h, n => by
    unfold mm_entry
    rw [my_cat h.1]
    split
    · exact ⟨⟨u, rfl, h.1⟩, rfl, my_entry (as := r) (as' := q) h.2 (n - 2)⟩
    · exact ⟨⟨u, rfl, h.1⟩, my_entry (as := r) (as' := q) h.2 (n - 1)⟩
  | [], _ :: _, h, _ => h.elim
  | _ :: _, [], h, _ => h.elim
theorem my_run_ok (hX1 : X'.1 = X.1) (hX3 : X'.2.2 = X.2.2) (hXt : ∀ k c, X.1 k = some c → my_nt c = true) (hXn : ∀ k, X.2.1.2 k = none) (hE : my_Ok E xs X') (fuel : Nat) : ∀ d, my_cl E xs (my_run E X P fuel d) (mm_run X' P fuel d) := by
  intro d
  induction d with
  | zero => intro j as as' h h' v h1 _ _ he; cases he
  | succ d ih =>
    intro j as as' h h' v h1 has hh he
    simp only [my_run] at he
    simp only [mm_run]
    cases hM : P j with
    | none => rw [hM] at he; cases he
    | some M =>
      rw [hM] at he
      dsimp only at he ⊢
      rw [my_cats has]
      cases hb : Nat.ble (mm_cats as) M.2.1 with
      | false => rw [hb] at he; cases he
      | true =>
        rw [hb] at he
        dsimp only at he ⊢
        cases hx : my_exe E X (my_run E X P fuel d) M fuel 0 (mm_entry M.2.1 as) [] h with
        | none => rw [hx] at he; cases he
        | some q =>
          obtain ⟨r, h2⟩ := q
          obtain ⟨r', h2', k1, k2, k3⟩ := my_exe_ok (P := P) hX1 hX3 hXt hXn hE ih fuel 0 _ _ _ _ _ _ r h2 hh (my_entry has M.2.1) (show my_sr E.1 xs [] [] from trivial) hx
          rw [hx] at he
          rw [k1]
          match r, he, k2 with
          | .inl (pc, L, st), he, k2 =>
            obtain ⟨L', st', rfl, g1, g2⟩ := k2
            dsimp only at he ⊢
            cases ha : my_ans E M.2.2.1 st with
            | none => rw [ha] at he; cases he
            | some w =>
              rw [ha] at he
              cases he
              obtain ⟨w', e1, e2⟩ := my_ans_ok g2 ha
              rw [e1]
              exact ⟨w', h2', rfl, e2, k3⟩
          | .inr ci, he, k2 =>
            have k2 : r' = .inr ci := k2
            subst k2
            cases he
            exact ⟨.inr ci, h2', rfl, rfl, k3⟩
end MW
