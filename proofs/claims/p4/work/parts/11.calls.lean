/-! ===== calls: the contract of a run, and the walk of a whole body ===== -/
theorem mm_sum_set : ∀ (h : mm_H) (k : Nat) (c0 c : mm_C), h[k]? = some c0 → mm_sl c0 = mm_sl c → mm_sum (h.set k c) = mm_sum h
  | [], k, c0, c, h1, _ => by simp at h1
  | a :: r, 0, c0, c, h1, h2 => by
    cases h1
    show mm_sl c + mm_sum r = mm_sl a + mm_sum r
    rw [h2]
  | a :: r, k + 1, c0, c, h1, h2 => by
    show mm_sl a + mm_sum (r.set k c) = mm_sl a + mm_sum r
    rw [mm_sum_set r k c0 c h1 h2]
theorem mm_sum_push : ∀ (h : mm_H) (c : mm_C), mm_sum (h ++ [c]) = mm_sum h + mm_sl c
  | [], c => by simp [mm_sum]
  | a :: r, c => by
    show mm_sl a + mm_sum (r ++ [c]) = mm_sl a + mm_sum r + mm_sl c
    rw [mm_sum_push r c, Nat.add_assoc]
def mm_le (h h' : mm_H) : Prop := h.length ≤ h'.length ∧ mm_sum h ≤ mm_sum h'
theorem mm_le.rf {h : mm_H} : mm_le h h := ⟨Nat.le_refl _, Nat.le_refl _⟩
theorem mm_le.tr {a b c : mm_H} (h1 : mm_le a b) (h2 : mm_le b c) : mm_le a c := ⟨Nat.le_trans h1.1 h2.1, Nat.le_trans h1.2 h2.2⟩
theorem mm_le.push {h : mm_H} {c : mm_C} : mm_le h (h ++ [c]) := ⟨by rw [List.length_append]; exact Nat.le_add_right _ _, by rw [mm_sum_push]; exact Nat.le_add_right _ _⟩
theorem mm_exe_mono {X : mm_X} {P : Nat → Option mm_M} {callee : Nat → List Value → mm_H → Option (mm_V × mm_H)} {M : mm_M} (hc : ∀ j as h v h', callee j as h = some (v, h') → mm_le h h') : ∀ n pc L st h res h', mm_exe X P callee M n pc L st h = some (res, h') → mm_le h h' := by
  intro n
  induction n with
  | zero => intro pc L st h res h' he; cases he
  | succ n ih =>
    intro pc L st h res h' he
    simp only [mm_exe] at he
    split at he
    · cases he
    · split at he
      · cases he
      · exact ih _ _ _ _ _ _ he
      · split at he
        · rename_i c0 hk0
          split at he
          · rename_i hb
            have h1 := ih _ _ _ _ _ _ he
            rw [Nat.beq_eq] at hb
            refine mm_le.tr ⟨by rw [List.length_set]; exact Nat.le_refl _, by rw [mm_sum_set _ _ _ _ hk0 hb]; exact Nat.le_refl _⟩ h1
          · cases he
        · cases he
      · exact mm_le.push.tr (ih _ _ _ _ _ _ he)
      · split at he
        · cases he
        · rename_i hcal
          exact (hc _ _ _ _ _ hcal).tr (ih _ _ _ _ _ _ he)
        · rename_i hcal
          exact (hc _ _ _ _ _ hcal).tr (ih _ _ _ _ _ _ he)
        · rename_i hcal
          have h1 := hc _ _ _ _ _ hcal
          split at he
          · cases he; exact h1
          · cases he; exact h1
          · cases he
      · cases he; exact mm_le.rf
      · split at he
        · cases he; exact mm_le.push
        · cases he
theorem mm_run_mono {X : mm_X} {P : Nat → Option mm_M} {fuel : Nat} : ∀ d j as h v h', mm_run X P fuel d j as h = some (v, h') → mm_le h h' := by
  intro d
  induction d with
  | zero => intro j as h v h' he; cases he
  | succ d ih =>
    intro j as h v h' he
    simp only [mm_run] at he
    split at he
    · cases he
    · split at he
      · cases he
      · split at he
        · rename_i hx
          have h1 := mm_exe_mono ih _ _ _ _ _ _ _ hx
          split at he
          · cases he; exact h1
          · cases he
        · rename_i hx
          have h1 := mm_exe_mono ih _ _ _ _ _ _ _ hx
          cases he; exact h1
        · cases he
/-- the words of a method: its code, and all good words of the tables -/
def mm_wsY (y : mm_N) (n : Nat) (hh : List (Nat × Nat × Nat × Nat)) : List Jvm.Cond := (match y.2.2.2 with
  | true => .codeWith y.1 y.2.1 n y.2.2.1 hh
  | false => .code y.1 y.2.1 n y.2.2.1) :: mt_g
def mm_rm (d mc ms : Nat) : Room := { frames := d + 8, cells := mc, slots := ms, locals := 100 * d + 200 }
def mm_Pc (G : mm_G) (X : mm_X) (as : List Value) (h : mm_H) : Array Value → State → Prop := va_Pc (as.map (mm_dn G)) (fun U => mm_W G h U.heap ∧ mm_Ev G X U ∧ G.1 ≤ U.heap.size)
def mm_Qc (G : mm_G) (v : mm_V) (h' : mm_H) : Array Value → State → Outcome → State → Prop := fun _ st oc t => (∃ w, v = .inl w ∧ oc = .returned (w.map (mm_dn G))) ∧ mm_W G h' t.heap ∧ va_F (mm_Ar G) st t
def mm_XC (G : mm_G) (v : mm_V) (h' : mm_H) : String → State → State → Prop := fun E st t => (∃ ci q, v = .inr ci ∧ mm_cls[ci]? = some q ∧ E = q.1) ∧ mm_W G h' t.heap ∧ va_F (mm_Ar G) st t
def mm_Ct (l : Launch) (G : mm_G) (X : mm_X) (y : mm_N) (n : Nat) (hh : List (Nat × Nat × Nat × Nat)) (d : Nat) (as : List Value) (h : mm_H) (v : mm_V) (h' : mm_H) : Prop :=
  vx_Met l y.1 (mm_wsY y n hh) (mm_rm d (h'.length - h.length) (mm_sum h' - mm_sum h)) (mm_Pc G X as h) (mm_Qc G v h') (mm_XC G v h') (h'.length - h.length) (mm_sum h' - mm_sum h) (mm_Ar G)
theorem mm_Pc_blind {G : mm_G} {X : mm_X} {as : List Value} {h : mm_H} : FrameBlind (mm_Pc G X as h) := fun a U g mk q => ⟨q.1, q.2.1, q.2.2.1.blind, q.2.2.2⟩
section MC
variable {p : Program} {l : Launch} {e : Env} {R : Room} {s : State} {m : MethodId} {args : Array Value} {below : List Frame} {meth : Method} {c : Code} {H : Heap} {locs : List Loc} {cells slots : Nat} {Q : State → Prop}
variable {cc : ByteArray} {pc : Nat} {ls : Array Slot} {G : mm_G} {X : mm_X} {h h' : mm_H} {L L' : mm_L} {st st' : List Value} {nx pc' : Nat} {ax : List Nat} {own mn : String} {N : Nat → Option mm_N} {mc ms : Nat} {rest st0 : List Value} {a : Array Value}
theorem mc_ret {w : Option Value} (hr : vx_Run p l e R s m args below meth c H locs cells slots mc ms (F0 m pc ls st0) rest (mm_Qc G (.inl w) h' a) (mm_XC G (.inl w) h') (mm_Ar G)) (hS : va_S (mm_Ar G) s.heap H locs)
    (kk : ∀ H1 locs1, mm_W G h' H1 → va_S (mm_Ar G) s.heap H1 locs1 → W p l e R s m args below meth c H1 locs1 (cells + mc) (slots + ms) Q (F0 m (pc + 3) ls ((w.map (mm_dn G)).toList ++ rest))) : W p l e R s m args below meth c H locs cells slots Q (F0 m pc ls st0) := by
  intro T hT X0
  rcases hr T hT X0 with ⟨v, st₀, t, T', L, h0, X', hL, e1, e2, hq, st⟩ | ⟨q, st₀, t, T', L, E, ce, h0, X', hL, e1, e2, hq, -⟩
  · obtain ⟨⟨w', hw, ho⟩, hW, hF⟩ := hq
    cases hw
    cases ho
    obtain ⟨z1, z2, z3⟩ := vx_keep h0 e1 hS (fun q _ h => h) (fun q h => h) hL hF
    obtain ⟨t2, a1, b1⟩ := kk T'.heap (locs ++ L) (by rw [e1]; exact hW) z3 T' rfl X'
    exact ⟨t2, st t2 a1, b1⟩
  · obtain ⟨⟨ci, r, hv, -⟩, -⟩ := hq
    cases hv
theorem mc_thr {ci : Nat} (hr : vx_Run p l e R s m args below meth c H locs cells slots mc ms (F0 m pc ls st0) rest (mm_Qc G (.inr ci) h' a) (mm_XC G (.inr ci) h') (mm_Ar G)) (hS : va_S (mm_Ar G) s.heap H locs)
    (kk : ∀ (q : Addr) (ce : Cell) (r : String × List (String × String × String × Bool)) H1 locs1, mm_cls[ci]? = some r → mm_W G h' H1 → va_S (mm_Ar G) s.heap H1 locs1 → H1[q]? = some ce → ce.vm = .none → s.vm.findClass r.1 = some ce.cls → vx_W p l e R s m args below meth c H1 locs1 (cells + mc) (slots + ms) Q (F0 m pc ls rest) q) : W p l e R s m args below meth c H locs cells slots Q (F0 m pc ls st0) := by
  intro T hT X0
  rcases hr T hT X0 with ⟨v, st₀, t, T', L, h0, X', hL, e1, e2, hq, st⟩ | ⟨q, st₀, t, T', L, E, ce, h0, X', hL, e1, e2, hq, hce, hcv, hcl, st⟩
  · obtain ⟨⟨w', hw, ho⟩, -⟩ := hq
    cases hw
  · obtain ⟨⟨ci', r, hv, hr1, rfl⟩, hW, hF⟩ := hq
    cases hv
    obtain ⟨z1, z2, z3⟩ := vx_keep h0 e1 hS (fun q _ h => h) (fun q h => h) hL hF
    obtain ⟨t2, a1, b1⟩ := kk q ce r T'.heap (locs ++ L) hr1 (by rw [e1]; exact hW) z3 (by rw [e1]; exact hce) hcv hcl T' rfl X'
    exact ⟨t2, st.trans a1, b1⟩
theorem mc_good {l : List Jvm.Cond} (h : ∀ w ∈ l, w ∈ mt_g) : GoodIn mt_g l := fun w hw => ⟨h w hw, good_of_word (List.mem_filter.mp (h w hw)).2⟩
theorem mc_need_g {i : Instr} (hI : mm_okI own mn N cc (pc, i, nx, ax) = true) {l : List (Nat × Jvm.Cond)} (hn : mm_need own N i ax = some l) : ∀ q ∈ l, mm_isN q.2 = false → q.2 ∈ mt_g := by
  intro q hq hf
  unfold mm_okI at hI
  simp only [Bool.and_eq_true] at hI
  obtain ⟨-, h2, -⟩ := hI
  rw [hn] at h2
  have h3 := List.all_eq_true.mp h2 q hq
  rw [Bool.and_eq_true, hf, Bool.or_false] at h3
  exact List.mem_filter.mpr ⟨List.mem_of_getElem? (of_decide_eq_true h3.2), h3.1⟩
/-- the method table is right -/
def mm_Yok (N : Nat → Option mm_N) (P : Nat → Option mm_M) (hh : Nat → List (Nat × Nat × Nat × Nat)) : Prop := ∀ j y, N j = some y → ∃ M, P j = some M ∧ (∀ w ∈ mm_wsY y M.2.1 (hh j), w ∈ mt_g) ∧ plainName y.1.cls = true ∧ (y.1.cls ≠ "java/lang/invoke/MethodHandle" ∧ y.1.cls ≠ "java/lang/invoke/VarHandle") ∧ M.2.1 ≤ 70
/-- the callee's contract -/
def mm_Cc (l : Launch) (G : mm_G) (X : mm_X) (N : Nat → Option mm_N) (P : Nat → Option mm_M) (hh : Nat → List (Nat × Nat × Nat × Nat)) (d : Nat) (callee : Nat → List Value → mm_H → Option (mm_V × mm_H)) : Prop := ∀ j as h v h' y M, callee j as h = some (v, h') → N j = some y → P j = some M → mm_Ct l G X y M.2.1 (hh j) d as h v h'
theorem mc_pre {as : List Value} (hF : mm_Fx p s m args c cc own G X) (hG : G.1 ≤ s.heap.size) (hW : mm_W G h H) (hS : va_S (mm_Ar G) s.heap H locs) : ∀ U : State, U.heap = H → s.WarmedH U.vm → mm_Pc G X as h (as.map (mm_dn G)).toArray U := by
  intro U hU hWm
  exact ⟨rfl, by rw [hU]; exact hW, hF.2.2.2.2.1.to hS hU hWm, by rw [hU]; exact Nat.le_trans hG hS.1⟩
theorem mc_recv (hX : mm_Xok X) (hF : mm_Fx p s m args c cc own G X) (hW : mm_W G h H) (hS : va_S (mm_Ar G) s.heap H locs) {o : Option Value} {ci : Nat} (hr : mm_recv X h o ci = true) {q : String × List (String × String × String × Bool)} (hq : mm_cls[ci]? = some q) : ∃ a b, o = some (.ref a) ∧ mm_ad G a = some b ∧ ∃ cellB : Cell, H[b]? = some cellB ∧ cellB.vm.isStatics = false ∧ s.vm.findClass q.1 = some cellB.cls := by
  unfold mm_recv at hr
  split at hr
  · rename_i a
    split at hr
    · rename_i fs ho
      have ho := mm_obj_eq ho
      by_cases ha : 64 ≤ a
      · rw [mm_rd_own ha] at ho
        refine ⟨a, G.1 + (a - 64), rfl, by unfold mm_ad; rw [if_neg (Nat.not_lt.mpr ha)], ?_⟩
        exact va_recv (tys := mm_tys G) hF.2.2.2.2.1.1 hW.1 (mm_cl_get hq) (mm_own_at ho)
      · rw [mm_rd_ext ha] at ho
        obtain ⟨b, r, e1, e2, e3, -⟩ := hF.2.2.2.2.1.2.2.2.1 a _ (hX.1 _ _ ho) ho
        cases hq.symm.trans e2
        obtain ⟨cell, h1, h2, h3, -⟩ := e3.kept hS.2.1
        exact ⟨a, b, rfl, e1, cell, h1, h2, h3⟩
    · cases hr
  · cases hr
theorem mc_split {n : Nat} {v : Value} (hn : n ≤ st.length) (hv : st[n - 1]? = some v) (h0 : 0 < n) : (st.take n).reverse = v :: (st.take (n - 1)).reverse ∧ st = st.take (n - 1) ++ v :: st.drop n := by
  obtain ⟨k, rfl⟩ : ∃ k, n = k + 1 := ⟨n - 1, by omega⟩
  rw [Nat.add_sub_cancel] at hv ⊢
  have h1 : st.take (k + 1) = st.take k ++ [v] := by
    rw [List.take_add_one, hv]; rfl
  refine ⟨by rw [h1]; simp, ?_⟩
  have h2 := (List.take_append_drop (k + 1) st).symm
  rw [h1, List.append_assoc] at h2
  exact h2
theorem mm_rst8 {st : List Value} {n : Nat} (h : mm_rst st n = true) : ((st.drop n).map fun v => v.category).sum ≤ 8 := by
  unfold mm_rst at h
  rw [Bool.or_eq_true, Nat.ble_eq, Nat.ble_eq] at h
  rcases h with h | h
  · exact mm_rest8 _ (by rw [List.length_drop]; omega)
  · have e : (fun v : Value => v.category) = (fun v : Value => match mm_cat2 v with
      | true => 2
      | false => 1) := by
      funext v
      cases v <;> rfl
    rw [e]
    exact h
theorem mc_call {as r : List Value} {j : Nat} {nx : Nat} (hs : mm_call X h nx L st ax = some (.inr (.inl (j, as, r)))) : ∃ kd n t, ax = kd :: j :: n :: t ∧ n ≤ st.length ∧ ((st.drop n).map fun v => v.category).sum ≤ 8 ∧ as = (st.take n).reverse ∧ r = st.drop n ∧
    ((∃ ci t', t = ci :: t' ∧ (kd = 0 ∨ kd = 5 ∨ kd = 3 ∨ kd = 4) ∧ mm_recv X h (st[n - 1]?) ci = true) ∨ ((kd = 2 ∨ kd = 7) ∧ mm_recv0 (st[n - 1]?) = true) ∨ (kd = 1 ∨ kd = 6 ∨ kd = 8)) := by
  unfold mm_call at hs
  split at hs
  · rename_i kd j' n t
    split at hs
    · cases hs
    · rename_i hb
      rw [Bool.and_eq_true, Nat.ble_eq] at hb
      split at hs
      · cases hs
      all_goals first
        | (split at hs
           · rename_i hr
             cases hs
             exact ⟨_, _, _, rfl, hb.1, mm_rst8 hb.2, rfl, rfl, Or.inl ⟨_, _, rfl, by simp, hr⟩⟩
           · cases hs)
        | (split at hs
           · rename_i hr
             cases hs
             exact ⟨_, _, _, rfl, hb.1, mm_rst8 hb.2, rfl, rfl, Or.inr (Or.inl ⟨by simp, hr⟩)⟩
           · cases hs)
        | (cases hs
           exact ⟨_, _, _, rfl, hb.1, mm_rst8 hb.2, rfl, rfl, Or.inr (Or.inr (by simp))⟩)
        | cases hs
  · cases hs
theorem mc_wsN {y : mm_N} {n : Nat} {hh : List (Nat × Nat × Nat × Nat)} (h : y.2.2.2 = false) : mm_wsY y n hh = .code y.1 y.2.1 n y.2.2.1 :: mt_g := by unfold mm_wsY; rw [h]
theorem mc_wsW {y : mm_N} {n : Nat} {hh : List (Nat × Nat × Nat × Nat)} (h : y.2.2.2 = true) : mm_wsY y n hh = .codeWith y.1 y.2.1 n y.2.2.1 hh :: mt_g := by unfold mm_wsY; rw [h]
theorem need_iv {x : Nat} {lw : List (Nat × Jvm.Cond)} (hn : mm_need own N (.invokevirtual x) ax = some lw) : (∃ j n ci p q r u y c, ax = [0, j, n, ci, p, q, r, u] ∧ N j = some y ∧ mm_cls[ci]? = some c ∧ y.1.cls = c.1 ∧ lw = [(p, .methodLink own x y.1), (q, .instanceMethod y.1), (r, .selects y.1.cls y.1 y.1), (u, .initialized y.1.cls)]) ∨
    (∃ j n ci p q r u hx y c, ax = [5, j, n, ci, p, q, r, u, hx] ∧ N j = some y ∧ mm_cls[ci]? = some c ∧ y.1.cls = c.1 ∧ lw = [(p, .methodLinkNest own x y.1 (mm_str hx)), (q, .instanceMethod y.1), (r, .selects y.1.cls y.1 y.1), (u, .initialized y.1.cls)]) ∨
    (∃ j n p q r u v ox cx y, ax = [3, j, n, 1, p, q, r, u, v, ox, cx] ∧ N j = some y ∧ mm_str ox = y.1.cls ∧ lw = [(p, .methodLink own x ⟨mm_str ox, y.1.name, y.1.desc⟩), (q, .sameMethod (mm_str ox) (mm_str ox) y.1.name y.1.desc), (r, .selects "java/lang/StringBuilder" ⟨mm_str ox, y.1.name, y.1.desc⟩ y.1), (u, .instanceMethod y.1), (v, .initialized y.1.cls)]) := by
  simp only [mm_need] at hn
  split at hn
  · split at hn
    · rename_i hy hc
      split at hn
      · rename_i he
        cases hn
        exact Or.inl ⟨_, _, _, _, _, _, _, _, _, rfl, hy, hc, he, rfl⟩
      · cases hn
    · cases hn
  · split at hn
    · rename_i hy hc
      split at hn
      · rename_i he
        cases hn
        exact Or.inr (Or.inl ⟨_, _, _, _, _, _, _, _, _, _, rfl, hy, hc, he, rfl⟩)
      · cases hn
    · cases hn
  · split at hn
    · rename_i hy
      split at hn
      · cases hn
      · rename_i he
        cases hn
        exact Or.inr (Or.inr ⟨_, _, _, _, _, _, _, _, _, _, rfl, hy, Decidable.not_not.mp he, rfl⟩)
    · cases hn
  · cases hn
theorem need_is {x : Nat} {lw : List (Nat × Jvm.Cond)} (hn : mm_need own N (.invokestatic x) ax = some lw) : (∃ kd j n p q r y, ax = [kd, j, n, p, q, r] ∧ (kd = 1 ∨ kd = 8) ∧ N j = some y ∧ lw = [(p, .methodLink own x y.1), (q, .static y.1), (r, .initialized y.1.cls)]) ∨
    (∃ j n p q r hx y, ax = [6, j, n, p, q, r, hx] ∧ N j = some y ∧ lw = [(p, .methodLinkNest own x y.1 (mm_str hx)), (q, .static y.1), (r, .initialized y.1.cls)]) ∨ ∃ kd p, (kd = 10 ∨ kd = 11 ∨ kd = 12) ∧ ax = [kd, p] := by
  simp only [mm_need] at hn
  split at hn
  · split at hn
    · rename_i hy
      cases hn
      exact Or.inl ⟨_, _, _, _, _, _, _, rfl, Or.inl rfl, hy, rfl⟩
    · cases hn
  · split at hn
    · rename_i hy
      cases hn
      exact Or.inl ⟨_, _, _, _, _, _, _, rfl, Or.inr rfl, hy, rfl⟩
    · cases hn
  · split at hn
    · rename_i hy
      cases hn
      exact Or.inr (Or.inl ⟨_, _, _, _, _, _, _, rfl, hy, rfl⟩)
    · cases hn
  · exact Or.inr (Or.inr ⟨_, _, Or.inl rfl, rfl⟩)
  · exact Or.inr (Or.inr ⟨_, _, Or.inr (Or.inl rfl), rfl⟩)
  · exact Or.inr (Or.inr ⟨_, _, Or.inr (Or.inr rfl), rfl⟩)
  · cases hn
theorem need_ip {x : Nat} {lw : List (Nat × Jvm.Cond)} (hn : mm_need own N (.invokespecial x) ax = some lw) : (∃ j n p q r u v y, ax = [4, j, n, 1, p, q, r, u, v] ∧ N j = some y ∧ y.1.name ≠ "<init>" ∧ lw = [(p, .methodLink own x y.1), (q, .sameMethod y.1.cls y.1.cls y.1.name y.1.desc), (r, .superclass own y.1.cls), (u, .instanceMethod y.1), (v, .initialized y.1.cls)]) ∨
    (∃ j n p q r y, ax = [2, j, n, p, q, r] ∧ N j = some y ∧ (y.1.name = "<init>" ∧ y.2.2.1 = none) ∧ lw = [(p, .methodLink own x y.1), (q, .instanceMethod y.1), (r, .initialized y.1.cls)]) ∨
    (∃ j n p q r hx y, ax = [7, j, n, p, q, r, hx] ∧ N j = some y ∧ (y.1.name = "<init>" ∧ y.2.2.1 = none) ∧ lw = [(p, .methodLinkNest own x y.1 (mm_str hx)), (q, .instanceMethod y.1), (r, .initialized y.1.cls)]) ∨ ∃ p, ax = [9, p] := by
  simp only [mm_need] at hn
  split at hn
  · split at hn
    · rename_i hy
      split at hn
      · cases hn
      · rename_i he
        cases hn
        exact Or.inl ⟨_, _, _, _, _, _, _, _, rfl, hy, he, rfl⟩
    · cases hn
  · split at hn
    · rename_i hy
      split at hn
      · rename_i he
        cases hn
        exact Or.inr (Or.inl ⟨_, _, _, _, _, _, rfl, hy, he, rfl⟩)
      · cases hn
    · cases hn
  · split at hn
    · rename_i hy
      split at hn
      · rename_i he
        cases hn
        exact Or.inr (Or.inr (Or.inl ⟨_, _, _, _, _, _, _, rfl, hy, he, rfl⟩))
      · cases hn
    · cases hn
  · exact Or.inr (Or.inr (Or.inr ⟨_, rfl⟩))
  · cases hn
theorem mc_stack {v : Value} {A B : List Value} (hst : st = A ++ v :: B) : st.map (mm_dn G) = (A.reverse.map (mm_dn G)).reverse ++ mm_dn G v :: B.map (mm_dn G) := by
  rw [hst]; simp
theorem mc_stackS {n : Nat} : st.map (mm_dn G) = ((st.take n).reverse.map (mm_dn G)).reverse ++ (st.drop n).map (mm_dn G) := by
  rw [← List.map_reverse, List.reverse_reverse, ← List.map_append, List.take_append_drop]
theorem mc_par {desc : String} {n : Nat} (h : (parseMethodDescriptor desc).map (fun g => g.parameters.length + 1) = some n) : 0 < n ∧ (parseMethodDescriptor desc).map (fun d => d.parameters.length) = some (n - 1) := by
  cases hs : parseMethodDescriptor desc with
  | none => rw [hs] at h; cases h
  | some sg =>
    rw [hs] at h
    have h : sg.parameters.length + 1 = n := Option.some.inj h
    subst h
    exact ⟨Nat.succ_pos _, rfl⟩
theorem mc_run (hX : mm_Xok X) {P : Nat → Option mm_M} {hh : Nat → List (Nat × Nat × Nat × Nat)} {d : Nat} {callee : Nat → List Value → mm_H → Option (mm_V × mm_H)} (hY : mm_Yok N P hh) (hCc : mm_Cc l G X N P hh d callee) (hF : mm_Fx p s m args c cc own G X) {i : Instr} (hi : (∃ x, i = .invokevirtual x) ∨ (∃ x, i = .invokestatic x) ∨ ∃ x, i = .invokespecial x) (hI : mm_okI own mn N cc (pc, i, nx, ax) = true) (hG : G.1 ≤ s.heap.size) (hW : mm_W G h H) (hS : va_S (mm_Ar G) s.heap H locs) (hl : mm_LH G ls L) (hml : c.maxLocals = L.length) (hRf : d + 9 ≤ R.frames) (hRl : 100 * d + 300 ≤ R.locals)
    {j : Nat} {as r : List Value} (hs : mm_call X h nx L st ax = some (.inr (.inl (j, as, r)))) {v : mm_V} (hv : callee j as h = some (v, h')) (hle : mm_le h h') (hR : cells + (h'.length - h.length) ≤ R.cells ∧ slots + (mm_sum h' - mm_sum h) ≤ R.slots) :
    vx_Run p l e R s m args below meth c H locs cells slots (h'.length - h.length) (mm_sum h' - mm_sum h) (F0 m pc ls (st.map (mm_dn G))) (r.map (mm_dn G)) (mm_Qc G v h' (as.map (mm_dn G)).toArray) (mm_XC G v h') (mm_Ar G) := by
  obtain ⟨hd, hn⟩ := mm_okI_dec hI (fun a b c d q => by rcases hi with ⟨x, rfl⟩ | ⟨x, rfl⟩ | ⟨x, rfl⟩ <;> cases q)
  obtain ⟨lw, hnd⟩ := mm_okI_need hI
  have hw := mm_need_wd hF hI hnd
  have hg := mc_need_g hI hnd
  have hr := mm_okI_rest hI
  obtain ⟨kd, n, t, rfl, c1, c2, rfl, rfl, hk⟩ := mc_call hs
  have hF0 := hF
  obtain ⟨hx, hb, hown, hts, hE, hXf⟩ := hF
  have S : CallFix p m c cc L.length s args mt_g own := ⟨hx, hb, hml, hown, hts⟩
  have hcat : 2 * (F0 m pc ls (st.map (mm_dn G))).monitorRoom + (((st.drop n).map (mm_dn G)).map fun v => v.category).sum ≤ 8 := by
    have h8 : (((st.drop n).map (mm_dn G)).map fun v => v.category).sum ≤ 8 := by
      rw [mm_map_cat]; exact c2
    show 0 + _ ≤ 8
    omega
  have hpre := mc_pre (as := (st.take n).reverse) hF0 hG hW hS
  have hroom : ∀ k : Nat, k ≤ 70 → (mm_rm d (h'.length - h.length) (mm_sum h' - mm_sum h)).frames + 1 ≤ R.frames ∧ 8 + (k + 11) + (mm_rm d (h'.length - h.length) (mm_sum h' - mm_sum h)).locals ≤ R.locals := fun k hk => ⟨by show d + 8 + 1 ≤ _; omega, by show 8 + (k + 11) + (100 * d + 200) ≤ _; omega⟩
  have hlen : ((st.take (n - 1)).reverse.map (mm_dn G)).length = n - 1 := by
    rw [List.length_map, List.length_reverse, List.length_take]; omega
  have hlenS : ((st.take n).reverse.map (mm_dn G)).length = n := by
    rw [List.length_map, List.length_reverse, List.length_take]; omega
  rcases hi with ⟨x, rfl⟩ | ⟨x, rfl⟩ | ⟨x, rfl⟩
  · rcases need_iv hnd with ⟨j', n', ci, p0, q0, r0, u0, y, c0, e, hy, hc0, hcls, rfl⟩ | ⟨j', n', ci, p0, q0, r0, u0, hx0, y, c0, e, hy, hc0, hcls, rfl⟩ | ⟨j', n', p0, q0, r0, u0, v0, ox, cx, y, e, hy, hcls, rfl⟩
    · cases e
      simp only [mm_rest, hy, Bool.and_eq_true, decide_eq_true_eq, Bool.not_eq_true'] at hr
      obtain ⟨hp1, hcw⟩ := hr
      obtain ⟨hp0, hp1⟩ := mc_par hp1
      obtain ⟨M, hM, hws, hpn, hmh, h70⟩ := hY j y hy
      have hct := hCc j _ h v h' y M hv hy hM
      rcases hk with ⟨ci', t', e1, -, hrv⟩ | ⟨z | z, -⟩ | z | z | z
      · cases e1
        obtain ⟨a, b, g1, g2, hcell⟩ := mc_recv hX hF0 hW hS hrv hc0
        obtain ⟨s1, s2⟩ := mc_split c1 g1 hp0
        have hargs : (st.take n).reverse.map (mm_dn G) = .ref b :: (st.take (n - 1)).reverse.map (mm_dn G) := by rw [s1, List.map_cons, mm_dn_some g2]
        rw [hargs] at hpre
        have cw := cwV (R := R) (C := y.1.cls) (own := own) (index := x) (rm := mm_rm d (h'.length - h.length) (mm_sum h' - mm_sum h)) (n - 1) hts (mc_good (l := wsV own x y.1.cls y.1 (mm_wsY y M.2.1 (hh j))) (fun w hw9 => by
          rcases List.mem_append.mp hw9 with z | z
          · have z' : w = .methodLink own x y.1 ∨ w = .instanceMethod y.1 ∨ w = .selects y.1.cls y.1 y.1 ∨ w = .initialized y.1.cls := by simpa using z
            rcases z' with rfl | rfl | rfl | rfl
            · exact hg _ List.mem_cons_self rfl
            · exact hg _ (List.mem_cons_of_mem _ List.mem_cons_self) rfl
            · exact hg _ (List.mem_cons_of_mem _ (List.mem_cons_of_mem _ List.mem_cons_self)) rfl
            · exact hg _ (List.mem_cons_of_mem _ (List.mem_cons_of_mem _ (List.mem_cons_of_mem _ List.mem_cons_self))) rfl
          · exact hws w z)) (mc_wsN hcw) rfl rfl ⟨rfl, hmh.1, hmh.2, hp1⟩ (hroom _ h70)
        have st9 := mc_stack (G := G) s2
        rw [mm_dn_some g2] at st9
        exact vx_runV (As := (st.take (n - 1)).reverse.map (mm_dn G)) (b := b) (g := F0 m pc ls (st.map (mm_dn G))) S hct cw ⟨mm_Pc_blind, by rw [hcls]; exact hcell, hpre⟩ rfl hlen hl.1 st9 hcat hd hR
      all_goals cases z
    · cases e
      simp only [mm_rest, hy, Bool.and_eq_true, decide_eq_true_eq, Bool.not_eq_true'] at hr
      obtain ⟨hp1, hcw⟩ := hr
      obtain ⟨hp0, hp1⟩ := mc_par hp1
      obtain ⟨M, hM, hws, hpn, hmh, h70⟩ := hY j y hy
      have hct := hCc j _ h v h' y M hv hy hM
      rcases hk with ⟨ci', t', e1, -, hrv⟩ | ⟨z | z, -⟩ | z | z | z
      · cases e1
        obtain ⟨a, b, g1, g2, hcell⟩ := mc_recv hX hF0 hW hS hrv hc0
        obtain ⟨s1, s2⟩ := mc_split c1 g1 hp0
        have hargs : (st.take n).reverse.map (mm_dn G) = .ref b :: (st.take (n - 1)).reverse.map (mm_dn G) := by rw [s1, List.map_cons, mm_dn_some g2]
        rw [hargs] at hpre
        have w1 := hw _ (List.mem_cons_of_mem _ List.mem_cons_self)
        have w2 := hw _ (List.mem_cons_of_mem _ (List.mem_cons_of_mem _ List.mem_cons_self))
        have w3 := hw _ (List.mem_cons_of_mem _ (List.mem_cons_of_mem _ (List.mem_cons_of_mem _ List.mem_cons_self)))
        have cw := va_cnB (R := R) (own := own) (index := x) (host := mm_str hx0) (rm := mm_rm d (h'.length - h.length) (mm_sum h' - mm_sum h)) (n - 1) hts (mc_good (l := mm_wsY y M.2.1 (hh j)) hws) (mc_wsN hcw) rfl rfl (va_tabs rfl rfl (hw _ List.mem_cons_self)) w3 ⟨hmh.1, hmh.2, hp1⟩ (hroom _ h70)
        have st9 := mc_stack (G := G) s2
        rw [mm_dn_some g2] at st9
        exact vx_runVN (C := y.1.cls) (As := (st.take (n - 1)).reverse.map (mm_dn G)) (b := b) (g := F0 m pc ls (st.map (mm_dn G))) S hct ⟨cw, w1, w2⟩ ⟨mm_Pc_blind, by rw [hcls]; exact hcell, hpre⟩ rfl hlen hl.1 st9 hcat hd hR
      all_goals cases z
    · cases e
      simp only [mm_rest, hy, Bool.and_eq_true, decide_eq_true_eq, Bool.not_eq_true'] at hr
      obtain ⟨hp1, hcw⟩ := hr
      obtain ⟨hp0, hp1⟩ := mc_par hp1
      obtain ⟨M, hM, hws, hpn, hmh, h70⟩ := hY j y hy
      have hct := hCc j _ h v h' y M hv hy hM
      rcases hk with ⟨ci', t', e1, -, hrv⟩ | ⟨z | z, -⟩ | z | z | z
      · cases e1
        obtain ⟨qc, k1, k2⟩ : ∃ qc, mm_cls[1]? = some qc ∧ qc.1 = "java/lang/StringBuilder" := ⟨_, rfl, rfl⟩
        obtain ⟨a, b, g1, g2, hcell⟩ := mc_recv hX hF0 hW hS hrv k1
        rw [k2] at hcell
        obtain ⟨s1, s2⟩ := mc_split c1 g1 hp0
        have hargs : (st.take n).reverse.map (mm_dn G) = .ref b :: (st.take (n - 1)).reverse.map (mm_dn G) := by rw [s1, List.map_cons, mm_dn_some g2]
        rw [hargs] at hpre
        have cw := va_cwU (R := R) (C := "java/lang/StringBuilder") (owner := mm_str ox) (x := ⟨mm_str ox, y.1.name, y.1.desc⟩) (own := own) (index := x) (rm := mm_rm d (h'.length - h.length) (mm_sum h' - mm_sum h)) (n - 1) hts (mc_good (l := va_wsU own x "java/lang/StringBuilder" (mm_str ox) ⟨mm_str ox, y.1.name, y.1.desc⟩ y.1 (mm_wsY y M.2.1 (hh j))) (fun w hw9 => by
          rcases List.mem_append.mp hw9 with z | z
          · have z' : w = .methodLink own x ⟨mm_str ox, y.1.name, y.1.desc⟩ ∨ w = .sameMethod (mm_str ox) (mm_str ox) y.1.name y.1.desc ∨ w = .selects "java/lang/StringBuilder" ⟨mm_str ox, y.1.name, y.1.desc⟩ y.1 ∨ w = .instanceMethod y.1 ∨ w = .initialized y.1.cls := by simpa using z
            rcases z' with rfl | rfl | rfl | rfl | rfl
            · exact hg _ List.mem_cons_self rfl
            · exact hg _ (List.mem_cons_of_mem _ List.mem_cons_self) rfl
            · exact hg _ (List.mem_cons_of_mem _ (List.mem_cons_of_mem _ List.mem_cons_self)) rfl
            · exact hg _ (List.mem_cons_of_mem _ (List.mem_cons_of_mem _ (List.mem_cons_of_mem _ List.mem_cons_self))) rfl
            · exact hg _ (List.mem_cons_of_mem _ (List.mem_cons_of_mem _ (List.mem_cons_of_mem _ (List.mem_cons_of_mem _ List.mem_cons_self)))) rfl
          · exact hws w z)) (mc_wsN hcw) rfl rfl (by rw [hcls]) ⟨by rw [hcls]; exact hmh.1, by rw [hcls]; exact hmh.2, hp1⟩ (hroom _ h70)
        have st9 := mc_stack (G := G) s2
        rw [mm_dn_some g2] at st9
        exact vx_runU (As := (st.take (n - 1)).reverse.map (mm_dn G)) (b := b) (g := F0 m pc ls (st.map (mm_dn G))) S hct cw ⟨mm_Pc_blind, hcell, hpre⟩ rfl hlen hl.1 st9 hcat hd hR
      all_goals cases z
  · rcases need_is hnd with ⟨kd', j', n', p0, q0, r0, y, e, hkd, hy, rfl⟩ | ⟨j', n', p0, q0, r0, hx0, y, e, hy, rfl⟩ | ⟨kd9, p0, -, e⟩
    · cases e
      have hM' := hY j y hy
      obtain ⟨M, hM, hws, hpn, hmh, h70⟩ := hM'
      have hct := hCc j _ h v h' y M hv hy hM
      have hr2 : decide ((parseMethodDescriptor y.1.desc).map (fun g => g.parameters.length) = some n) = true ∧ (y.2.2.2 == (kd == 8)) = true := by
        rcases hkd with rfl | rfl
        · simp only [mm_rest, hy] at hr; exact Bool.and_eq_true_iff.mp hr
        · simp only [mm_rest, hy] at hr; exact Bool.and_eq_true_iff.mp hr
      have hp1 := of_decide_eq_true hr2.1
      have hgood : GoodIn mt_g (va_wsS own x y.1 (mm_wsY y M.2.1 (hh j))) := mc_good (fun w hw9 => by
          rcases List.mem_append.mp hw9 with z | z
          · have z' : w = .methodLink own x y.1 ∨ w = .static y.1 ∨ w = .initialized y.1.cls := by simpa using z
            rcases z' with rfl | rfl | rfl
            · exact hg _ List.mem_cons_self rfl
            · exact hg _ (List.mem_cons_of_mem _ List.mem_cons_self) rfl
            · exact hg _ (List.mem_cons_of_mem _ (List.mem_cons_of_mem _ List.mem_cons_self)) rfl
          · exact hws w z)
      rcases hkd with rfl | rfl
      · have hcw : y.2.2.2 = false := by have := hr2.2; revert this; cases y.2.2.2 <;> decide
        have cw := va_cwS (R := R) (own := own) (index := x) (rm := mm_rm d (h'.length - h.length) (mm_sum h' - mm_sum h)) n hts hgood (mc_wsN hcw) rfl rfl ⟨hmh.1, hmh.2, hp1⟩ (hroom _ h70)
        exact vx_runS (As := (st.take n).reverse.map (mm_dn G)) (g := F0 m pc ls (st.map (mm_dn G))) S hct cw ⟨mm_Pc_blind, hpre⟩ rfl hlenS hl.1 mc_stackS hcat hd hR
      · have hcw : y.2.2.2 = true := by have := hr2.2; revert this; cases y.2.2.2 <;> decide
        have cw := vx_cwSW (R := R) (own := own) (index := x) (rm := mm_rm d (h'.length - h.length) (mm_sum h' - mm_sum h)) n hts hgood (mc_wsW hcw) rfl rfl ⟨hmh.1, hmh.2, hp1⟩ (hroom _ h70)
        exact vx_runSX (As := (st.take n).reverse.map (mm_dn G)) (g := F0 m pc ls (st.map (mm_dn G))) S hct cw ⟨mm_Pc_blind, hpre⟩ rfl hlenS hl.1 mc_stackS hcat hd hR
    · cases e
      obtain ⟨M, hM, hws, hpn, hmh, h70⟩ := hY j y hy
      have hct := hCc j _ h v h' y M hv hy hM
      simp only [mm_rest, hy, Bool.and_eq_true, decide_eq_true_eq] at hr
      have hcw : y.2.2.2 = false := by have := hr.2; revert this; cases y.2.2.2 <;> decide
      have w1 := hw _ (List.mem_cons_of_mem _ List.mem_cons_self)
      have w2 := hw _ (List.mem_cons_of_mem _ (List.mem_cons_of_mem _ List.mem_cons_self))
      have cw := va_cnB (R := R) (own := own) (index := x) (host := mm_str hx0) (rm := mm_rm d (h'.length - h.length) (mm_sum h' - mm_sum h)) n hts (mc_good (l := mm_wsY y M.2.1 (hh j)) hws) (mc_wsN hcw) rfl rfl (va_tabs rfl rfl (hw _ List.mem_cons_self)) w2 ⟨hmh.1, hmh.2, hr.1⟩ (hroom _ h70)
      exact vx_runSN (As := (st.take n).reverse.map (mm_dn G)) (g := F0 m pc ls (st.map (mm_dn G))) S hct ⟨cw, w1, trivial⟩ ⟨mm_Pc_blind, hpre⟩ rfl hlenS hl.1 mc_stackS hcat hd hR
    · cases e
  · rcases need_ip hnd with ⟨j', n', p0, q0, r0, u0, v0, y, e, hy, hni, rfl⟩ | ⟨j', n', p0, q0, r0, y, e, hy, hini, rfl⟩ | ⟨j', n', p0, q0, r0, hx0, y, e, hy, hini, rfl⟩ | ⟨p0, e⟩
    · cases e
      simp only [mm_rest, hy, Bool.and_eq_true, decide_eq_true_eq, Bool.not_eq_true'] at hr
      obtain ⟨hp1, hcw⟩ := hr
      obtain ⟨hp0, hp1⟩ := mc_par hp1
      obtain ⟨M, hM, hws, hpn, hmh, h70⟩ := hY j y hy
      have hct := hCc j _ h v h' y M hv hy hM
      rcases hk with ⟨ci', t', e1, -, hrv⟩ | ⟨z | z, -⟩ | z | z | z
      · cases e1
        obtain ⟨qc, k1, k2⟩ : ∃ qc, mm_cls[1]? = some qc ∧ qc.1 = "java/lang/StringBuilder" := ⟨_, rfl, rfl⟩
        obtain ⟨a, b, g1, g2, hcell⟩ := mc_recv hX hF0 hW hS hrv k1
        have hat := (hE.1.1 1 _ (mm_cl_get k1)).2
        obtain ⟨s1, s2⟩ := mc_split c1 g1 hp0
        have hargs : (st.take n).reverse.map (mm_dn G) = .ref b :: (st.take (n - 1)).reverse.map (mm_dn G) := by rw [s1, List.map_cons, mm_dn_some g2]
        rw [hargs] at hpre
        have cw := va_cwSU (R := R) (own := own) (index := x) (rm := mm_rm d (h'.length - h.length) (mm_sum h' - mm_sum h)) (n - 1) hts (mc_good (l := va_wsSU own x y.1 (mm_wsY y M.2.1 (hh j))) (fun w hw9 => by
          rcases List.mem_append.mp hw9 with z | z
          · have z' : w = .methodLink own x y.1 ∨ w = .sameMethod y.1.cls y.1.cls y.1.name y.1.desc ∨ w = .superclass own y.1.cls ∨ w = .instanceMethod y.1 ∨ w = .initialized y.1.cls := by simpa using z
            rcases z' with rfl | rfl | rfl | rfl | rfl
            · exact hg _ List.mem_cons_self rfl
            · exact hg _ (List.mem_cons_of_mem _ List.mem_cons_self) rfl
            · exact hg _ (List.mem_cons_of_mem _ (List.mem_cons_of_mem _ List.mem_cons_self)) rfl
            · exact hg _ (List.mem_cons_of_mem _ (List.mem_cons_of_mem _ (List.mem_cons_of_mem _ List.mem_cons_self))) rfl
            · exact hg _ (List.mem_cons_of_mem _ (List.mem_cons_of_mem _ (List.mem_cons_of_mem _ (List.mem_cons_of_mem _ List.mem_cons_self)))) rfl
          · exact hws w z)) (mc_wsN hcw) rfl rfl ⟨hni, hp1⟩ (hroom _ h70)
        have st9 := mc_stack (G := G) s2
        rw [mm_dn_some g2] at st9
        exact vx_runSU (As := (st.take (n - 1)).reverse.map (mm_dn G)) (b := b) (g := F0 m pc ls (st.map (mm_dn G))) hat S hct cw ⟨mm_Pc_blind, hcell, hpre⟩ rfl hlen hl.1 st9 hcat hd hR
      all_goals cases z
    · cases e
      simp only [mm_rest, hy, Bool.and_eq_true, decide_eq_true_eq, Bool.not_eq_true'] at hr
      obtain ⟨hp1, hcw⟩ := hr
      obtain ⟨hp0, hp1⟩ := mc_par hp1
      obtain ⟨M, hM, hws, hpn, hmh, h70⟩ := hY j y hy
      have hct := hCc j _ h v h' y M hv hy hM
      rcases hk with ⟨ci', t', e1, z, hrv⟩ | ⟨-, hrv⟩ | z
      · rcases z with z | z | z | z <;> cases z
      · obtain ⟨a, g1, ha⟩ : ∃ a, st[n - 1]? = some (.ref a) ∧ 64 ≤ a := by
          unfold mm_recv0 at hrv
          split at hrv
          · rename_i a hst9
            exact ⟨a, hst9, Nat.ble_eq.mp hrv⟩
          · cases hrv
        obtain ⟨s1, s2⟩ := mc_split c1 g1 hp0
        have hargs : (st.take n).reverse.map (mm_dn G) = .ref (G.1 + (a - 64)) :: (st.take (n - 1)).reverse.map (mm_dn G) := by rw [s1, List.map_cons, mm_dn_own ha]
        rw [hargs] at hpre
        have hw9 : mm_wsY y M.2.1 (hh j) = .code y.1 y.2.1 M.2.1 none :: mt_g := by rw [mc_wsN hcw, hini.2]
        have w0 := hw _ List.mem_cons_self
        have w1 := hw _ (List.mem_cons_of_mem _ List.mem_cons_self)
        have w2 := hw _ (List.mem_cons_of_mem _ (List.mem_cons_of_mem _ List.mem_cons_self))
        have st9 := mc_stack (G := G) s2
        rw [mm_dn_own ha] at st9
        have cw := cwI (R := R) (own := own) (index := x) (rm := mm_rm d (h'.length - h.length) (mm_sum h' - mm_sum h)) (n - 1) hts (mc_good (l := mm_wsY y M.2.1 (hh j)) hws) hw9 rfl rfl w2 w0 w1 hini.1 ⟨hmh.1, hmh.2, hp1⟩ (hroom _ h70)
        exact vx_runI (As := (st.take (n - 1)).reverse.map (mm_dn G)) (b := G.1 + (a - 64)) (g := F0 m pc ls (st.map (mm_dn G))) S hct cw ⟨mm_Pc_blind, hpre⟩ rfl hlen hl.1 st9 hcat hd hR
      · rcases z with z | z | z <;> cases z
    · cases e
      simp only [mm_rest, hy, Bool.and_eq_true, decide_eq_true_eq, Bool.not_eq_true'] at hr
      obtain ⟨hp1, hcw⟩ := hr
      obtain ⟨hp0, hp1⟩ := mc_par hp1
      obtain ⟨M, hM, hws, hpn, hmh, h70⟩ := hY j y hy
      have hct := hCc j _ h v h' y M hv hy hM
      rcases hk with ⟨ci', t', e1, z, hrv⟩ | ⟨-, hrv⟩ | z
      · rcases z with z | z | z | z <;> cases z
      · obtain ⟨a, g1, ha⟩ : ∃ a, st[n - 1]? = some (.ref a) ∧ 64 ≤ a := by
          unfold mm_recv0 at hrv
          split at hrv
          · rename_i a hst9
            exact ⟨a, hst9, Nat.ble_eq.mp hrv⟩
          · cases hrv
        obtain ⟨s1, s2⟩ := mc_split c1 g1 hp0
        have hargs : (st.take n).reverse.map (mm_dn G) = .ref (G.1 + (a - 64)) :: (st.take (n - 1)).reverse.map (mm_dn G) := by rw [s1, List.map_cons, mm_dn_own ha]
        rw [hargs] at hpre
        have hw9 : mm_wsY y M.2.1 (hh j) = .code y.1 y.2.1 M.2.1 none :: mt_g := by rw [mc_wsN hcw, hini.2]
        have w0 := hw _ List.mem_cons_self
        have w1 := hw _ (List.mem_cons_of_mem _ List.mem_cons_self)
        have w2 := hw _ (List.mem_cons_of_mem _ (List.mem_cons_of_mem _ List.mem_cons_self))
        have st9 := mc_stack (G := G) s2
        rw [mm_dn_own ha] at st9
        have cw := va_cnB (R := R) (own := own) (index := x) (host := mm_str hx0) (rm := mm_rm d (h'.length - h.length) (mm_sum h' - mm_sum h)) (n - 1) hts (mc_good (l := mm_wsY y M.2.1 (hh j)) hws) hw9 rfl rfl (va_tabs rfl rfl w0) w2 ⟨hmh.1, hmh.2, hp1⟩ (hroom _ h70)
        exact vx_runIN (As := (st.take (n - 1)).reverse.map (mm_dn G)) (b := G.1 + (a - 64)) (g := F0 m pc ls (st.map (mm_dn G))) S hct ⟨cw, hini.1, w1⟩ ⟨mm_Pc_blind, hpre⟩ rfl hlen hl.1 st9 hcat hd hR
      · rcases z with z | z | z <;> cases z
    · cases e
end MC
