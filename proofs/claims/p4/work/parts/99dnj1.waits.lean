section N_j
/-! ===== the class, exactly: a formula read: what waits, what was read ===== -/
abbrev hW : Type := List (Int32 × Int32)
/-- the reader: what waits, the lowest first; open parentheses; nodes -/
def FRS (sh : List mm_C) (V : hV) (ws : hW) (op nd : Nat) : Prop := kFR sh ∧ V.1 76 3 = Int32.ofNat ws.length ∧ V.1 76 4 = Int32.ofNat op ∧ V.1 76 5 = Int32.ofNat nd ∧ ∀ (i : Nat) (x : Int32 × Int32), ws[i]? = some x → V.1 77 i = x.1 ∧ V.1 78 i = x.2
/-- a formula: its nodes -/
def FOS (sh : List mm_C) (V : hV) (a : Nat) (fo : hW) : Prop := kForm sh a ∧ (a = 72 ∨ 82 ≤ a) ∧ V.1 a 3 = Int32.ofNat fo.length ∧ ∀ (i : Nat) (x : Int32 × Int32), fo[i]? = some x → V.1 (a + 1) i = x.1 ∧ V.1 (a + 2) i = x.2
theorem FRS.fr {sh : List mm_C} {V W : hV} {ws : hW} {op nd : Nat} (h : FRS sh V ws op nd) (g : ∀ b, 76 ≤ b → b ≤ 78 → W.1 b = V.1 b) : FRS sh W ws op nd := by
  obtain ⟨h1, h2, h3, h4, h5⟩ := h
  have e := g 76 (by decide) (by decide)
  refine ⟨h1, (congrFun e 3).trans h2, (congrFun e 4).trans h3, (congrFun e 5).trans h4, fun i x hx => ?_⟩
  obtain ⟨a1, a2⟩ := h5 i x hx
  exact ⟨(congrFun (g 77 (by decide) (by decide)) i).trans a1, (congrFun (g 78 (by decide) (by decide)) i).trans a2⟩
theorem FOS.fr {sh : List mm_C} {V W : hV} {a : Nat} {fo : hW} (h : FOS sh V a fo) (g : ∀ b, a ≤ b → b ≤ a + 2 → W.1 b = V.1 b) : FOS sh W a fo := by
  obtain ⟨h1, h2, h3, h4⟩ := h
  refine ⟨h1, h2, (congrFun (g a (by omega) (by omega)) 3).trans h3, fun i x hx => ?_⟩
  obtain ⟨a1, a2⟩ := h4 i x hx
  exact ⟨(congrFun (g (a + 1) (by omega) (by omega)) i).trans a1, (congrFun (g (a + 2) (by omega) (by omega)) i).trans a2⟩
theorem ap_some {α : Type} {l : List α} {x y : α} {i : Nat} (h : (l ++ [x])[i]? = some y) : (i < l.length ∧ l[i]? = some y) ∨ (i = l.length ∧ y = x) := by
  by_cases c : i < l.length
  · rw [List.getElem?_append_left c] at h
    exact Or.inl ⟨c, h⟩
  · rw [List.getElem?_append_right (by omega)] at h
    cases k : i - l.length with
    | zero =>
      rw [k] at h
      cases h
      exact Or.inr ⟨by omega, rfl⟩
    | succ n =>
      rw [k] at h
      cases h
theorem s_hold {S : ww_S} {sh : List mm_C} {V : hV} {ws : hW} {op nd : Nat} (h : FRS sh V ws op nd) (hl : ws.length < 68) {s n : Int32} : ∃ W, EV S 2 23 [.ref 76, .int s, .int n] (hH sh V) (.inl none) (hH sh W) ∧ FRS sh W (ws ++ [(s, n)]) op nd ∧ ∀ b, b ≠ 76 → b ≠ 77 → b ≠ 78 → W.1 b = V.1 b := by
  obtain ⟨h1, h2, h3, h4, h5⟩ := h
  have SP : ∀ (U : hV) (q : Nat) (y : Int32), kR sh q 68 → EV S 1 157 [.ref q, .int (Int32.ofNat ws.length), .int y] (hH sh U) (.inl none) (hH sh (up U q ws.length y)) := by
    intro U q y hq
    have E := s_put (S := S) (V := U) hq (by decide) (i := Int32.ofNat ws.length) (x := y)
    rw [putV_up hl (by decide)] at E
    exact E
  have e1 : (up V 77 ws.length s).1 76 3 = Int32.ofNat ws.length := (up_ne _ _ (Or.inl (by decide))).trans h2
  have e2 : (up (up V 77 ws.length s) 78 ws.length n).1 76 3 = Int32.ofNat ws.length := (up_ne _ _ (Or.inl (by decide))).trans e1
  refine ⟨up (up (up V 77 ws.length s) 78 ws.length n) 76 3 (Int32.ofNat ws.length + 1), ?_, ⟨h1, ?_, ?_, ?_, fun i x hx => ?_⟩, fun b b1 b2 b3 => ?_⟩
  · refine ev_qe P23 rfl ?_
    refine wp_aload_n k23_0 rfl rfl ?_
    refine wq_getR k23_1 h1.1 rfl ?_
    refine wp_aload_n k23_4 rfl rfl ?_
    refine wp_getI k23_5 h1.1.h h1.1.o rfl _ h2 ?_
    refine wp_iload_n k23_8 rfl rfl ?_
    refine wp_csn (st2 := []) k23_9 (SP _ 77 _ h1.2.2.1.r) (by decide) rfl rfl rfl (by decide) ?_
    refine wp_aload_n k23_12 rfl rfl ?_
    refine wq_getR k23_13 h1.1 rfl ?_
    refine wp_aload_n k23_16 rfl rfl ?_
    refine wp_getI k23_17 h1.1.h h1.1.o rfl _ e1 ?_
    refine wp_iload_n k23_20 rfl rfl ?_
    refine wp_csn (st2 := []) k23_21 (SP _ 78 _ h1.2.2.2.r) (by decide) rfl rfl rfl (by decide) ?_
    refine wp_aload_n k23_24 rfl rfl ?_
    refine wp_dup k23_25 rfl ?_
    refine wp_getI k23_26 h1.1.h h1.1.o rfl _ e2 ?_
    refine wp_iconst 1 k23_29 (by decide) ?_
    refine wp_iadd k23_30 ?_
    refine wp_putI k23_31 h1.1.h h1.1.o rfl rfl rfl ?_
    exact wp_retn k23_34 rfl rfl
  · rw [List.length_append, List.length_singleton]
    exact (up_eq _ _ _ _).trans (i_succ _)
  · exact (up_ne _ _ (Or.inr (by decide))).trans ((up_ne _ _ (Or.inl (by decide))).trans ((up_ne _ _ (Or.inl (by decide))).trans h3))
  · exact (up_ne _ _ (Or.inr (by decide))).trans ((up_ne _ _ (Or.inl (by decide))).trans ((up_ne _ _ (Or.inl (by decide))).trans h4))
  · rcases ap_some hx with ⟨hi, hx⟩ | ⟨hi, hxe⟩
    · obtain ⟨a1, a2⟩ := h5 i x hx
      exact ⟨(up_ne _ _ (Or.inl (by decide))).trans ((up_ne _ _ (Or.inl (by decide))).trans ((up_ne _ _ (Or.inr (by omega))).trans a1)), (up_ne _ _ (Or.inl (by decide))).trans ((up_ne _ _ (Or.inr (by omega))).trans ((up_ne _ _ (Or.inl (by decide))).trans a2))⟩
    · subst hi hxe
      exact ⟨(up_ne _ _ (Or.inl (by decide))).trans ((up_ne _ _ (Or.inl (by decide))).trans (up_eq _ _ _ _)), (up_ne _ _ (Or.inl (by decide))).trans (up_eq _ _ _ _)⟩
  · exact (funext fun j => up_ne _ _ (Or.inl b1)).trans ((funext fun j => up_ne _ _ (Or.inl b3)).trans (funext fun j => up_ne _ _ (Or.inl b2)))
theorem s_fadd {S : ww_S} {sh : List mm_C} {V : hV} {a : Nat} {fo : hW} (h : FOS sh V a fo) (hl : fo.length < 60) {x y : Int32} : ∃ W, EV S 2 9 [.ref a, .int x, .int y] (hH sh V) (.inl none) (hH sh W) ∧ FOS sh W a (fo ++ [(x, y)]) ∧ ∀ b, b ≠ a → b ≠ a + 1 → b ≠ a + 2 → W.1 b = V.1 b := by
  obtain ⟨h1, h2, h3, h4⟩ := h
  have E := s_add (S := S) (V := V) h1 (x := x) (y := y)
  have em : (if (60 : Int32) < Int32.ofNat fo.length + 1 then (60 : Int32) else Int32.ofNat fo.length + 1) = Int32.ofNat (fo.length + 1) := by
    rw [i_succ]
    exact if_neg (i_nlt (k := 60) (n := fo.length + 1) (by omega) (by decide))
  unfold fadV at E
  rw [h3, putV_up (by omega) (by decide), putV_up (by omega) (by decide), em] at E
  refine ⟨_, E, ⟨h1, h2, ?_, fun i z hz => ?_⟩, fun b b1 b2 b3 => ?_⟩
  · rw [List.length_append, List.length_singleton]
    exact up_eq _ _ _ _
  · rcases ap_some hz with ⟨hi, hz⟩ | ⟨hi, hze⟩
    · obtain ⟨a1, a2⟩ := h4 i z hz
      exact ⟨(up_ne _ _ (Or.inl (by omega))).trans ((up_ne _ _ (Or.inl (by omega))).trans ((up_ne _ _ (Or.inr (by omega))).trans a1)), (up_ne _ _ (Or.inl (by omega))).trans ((up_ne _ _ (Or.inr (by omega))).trans ((up_ne _ _ (Or.inl (by omega))).trans a2))⟩
    · subst hi hze
      exact ⟨(up_ne _ _ (Or.inl (by omega))).trans ((up_ne _ _ (Or.inl (by omega))).trans (up_eq _ _ _ _)), (up_ne _ _ (Or.inl (by omega))).trans (up_eq _ _ _ _)⟩
  · exact (funext fun j => up_ne _ _ (Or.inl b1)).trans ((funext fun j => up_ne _ _ (Or.inl b3)).trans (funext fun j => up_ne _ _ (Or.inl b2)))
/-- what waits and binds no less than s comes to what was read -/
def relF (s : Int32) : Nat → hW → hW → hW × hW
  | 0, ws, fo => (ws, fo)
  | n + 1, ws, fo => match ws[n]? with
    | some x => if x.1 ≤ s then relF s n (ws.take n) (fo ++ [x]) else (ws, fo)
    | none => (ws, fo)
/-- how much waits that is no parenthesis -/
def npF (ws : hW) : Nat := (ws.filter fun x => decide (x.1 ≤ 7)).length
theorem np_take {ws : hW} {n : Nat} {x : Int32 × Int32} (hn : ws.length = n + 1) (hx : ws[n]? = some x) (h7 : x.1 ≤ 7) : npF ws = npF (ws.take n) + 1 := by
  have e : ws = ws.take n ++ [x] := by
    have h1 := List.take_append_drop n ws
    have h2 : ws.drop n = [x] := by
      have h3 : (ws.drop n).length = 1 := by
        rw [List.length_drop]
        omega
      have h4 : (ws.drop n)[0]? = some x := by
        rw [List.getElem?_drop]
        exact hx
      match hd : ws.drop n, h3, h4 with
      | [y], _, h4 =>
        have h4 : some y = some x := h4
        rw [Option.some.inj h4]
    rw [h2] at h1
    exact h1.symm
  unfold npF
  rw [congrArg (fun z : hW => (z.filter fun x => decide (x.1 ≤ 7)).length) e]
  show ((ws.take n ++ [x]).filter _).length = _
  rw [List.filter_append, List.length_append]
  congr 1
  rw [List.filter_cons, if_pos (decide_eq_true h7)]
  rfl
end N_j
