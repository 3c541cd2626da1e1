section N_o
/-! ===== the class, exactly: a formula read ===== -/
theorem rel_len (s : Int32) : ∀ (n : Nat) (ws fo : hW), ws.length = n → (relF s n ws fo).1.length ≤ n
  | 0, ws, fo, h => Nat.le_of_eq h
  | n + 1, ws, fo, h => by
    obtain ⟨x, hx⟩ : ∃ x, ws[n]? = some x := ⟨_, List.getElem?_eq_getElem (by omega)⟩
    unfold relF
    rw [hx]
    dsimp only
    by_cases c : x.1 ≤ s
    · rw [if_pos c]
      have := rel_len s n (ws.take n) (fo ++ [x]) (by rw [List.length_take]; omega)
      omega
    · rw [if_neg c]
      exact Nat.le_of_eq h
theorem rel_top (s : Int32) : ∀ (n : Nat) (ws fo : hW), ws.length = n → ∀ x, (relF s n ws fo).1[(relF s n ws fo).1.length - 1]? = some x → ¬ x.1 ≤ s
  | 0, ws, fo, h, x, hx => by
    have h0 : ws = [] := List.length_eq_zero_iff.mp h
    subst h0
    cases hx
  | n + 1, ws, fo, h, x, hx => by
    obtain ⟨y, hy⟩ : ∃ y, ws[n]? = some y := ⟨_, List.getElem?_eq_getElem (by omega)⟩
    unfold relF at hx
    rw [hy] at hx
    dsimp only at hx
    by_cases c : y.1 ≤ s
    · rw [if_pos c] at hx
      exact rel_top s n (ws.take n) (fo ++ [y]) (by rw [List.length_take]; omega) x hx
    · rw [if_neg c] at hx
      have hx : ws[ws.length - 1]? = some x := hx
      rw [show ws.length - 1 = n by omega, hy] at hx
      cases hx
      exact c
theorem np_top {ws : hW} (h : 1 ≤ ws.length) (hx : ∀ x, ws[ws.length - 1]? = some x → ¬ x.1 ≤ 7) : npF (ws.take (ws.length - 1)) = npF ws := by
  obtain ⟨n, hn⟩ : ∃ n, ws.length = n + 1 := ⟨ws.length - 1, by omega⟩
  rw [hn, Nat.add_sub_cancel] at hx ⊢
  obtain ⟨y, hy⟩ : ∃ y, ws[n]? = some y := ⟨_, List.getElem?_eq_getElem (by omega)⟩
  have e : ws = ws.take n ++ [y] := by
    have h1 := List.take_append_drop n ws
    have h2 : ws.drop n = [y] := by
      have h3 : (ws.drop n).length = 1 := by
        rw [List.length_drop]
        omega
      have h4 : (ws.drop n)[0]? = some y := by
        rw [List.getElem?_drop]
        exact hy
      match hd : ws.drop n, h3, h4 with
      | [z], _, h4 =>
        have h4 : some z = some y := h4
        rw [Option.some.inj h4]
    rw [h2] at h1
    exact h1.symm
  have h5 := np_app (ws.take n) y
  rw [if_neg (hx y hy), ← e] at h5
  omega
def joC (f : Nat → Int32) (l : Nat) (t : hS) : hS := match t with
  | (p, _, ws, op, nd, fo) => if nd < 60 then (nxE f l p, false, (relF (kdE f l p - 256) ws.length ws fo).1 ++ [(kdE f l p - 256, 0)], op, nd + 1, (relF (kdE f l p - 256) ws.length ws fo).2) else (p, true, ws, op, nd, fo)
def clC (f : Nat → Int32) (l : Nat) (t : hS) : hS := match t with
  | (p, _, ws, op, nd, fo) => if kdE f l p = 41 then (nxE f l p, false, (relF 7 ws.length ws fo).1.take ((relF 7 ws.length ws fo).1.length - 1), op - 1, nd, (relF 7 ws.length ws fo).2) else (p, true, ws, op, nd, fo)
/-- the reader's loop -/
def cRd (f : Nat → Int32) (l : Nat) (Gf : Nat → Int32) (cf : Nat) (Gp : Nat → Int32) (cp : Nat) (pl : Bool) : Nat → Bool → hS → hS
  | 0, _, t => t
  | g + 1, needs, t => if t.2.1 = true then t else if needs = true then cRd f l Gf cf Gp cp pl g (itC f l Gf cf Gp cp pl t).1 (itC f l Gf cf Gp cp pl t).2 else if kdE f l t.1 - 256 = 6 ∨ kdE f l t.1 - 256 = 7 then cRd f l Gf cf Gp cp pl g true (joC f l t) else if 0 < t.2.2.2.1 then cRd f l Gf cf Gp cp pl g false (clC f l t) else t
def rlC (t : hS) : hS := (t.1, t.2.1, (relF 7 t.2.2.1.length t.2.2.1 t.2.2.2.2.2).1, t.2.2.2.1, t.2.2.2.2.1, (relF 7 t.2.2.1.length t.2.2.1 t.2.2.2.2.2).2)
theorem le_57 {s : Int32} (h : ¬ 5 < s) : s ≤ 7 := by
  have h1 := Int32.not_lt.mp h
  refine Int32.not_lt.mp fun q => h ?_
  exact Int32.lt_trans (by decide) q
theorem inv_it {f : Nat → Int32} {l : Nat} {Gf : Nat → Int32} {cf : Nat} {Gp : Nat → Int32} {cp : Nat} {pl : Bool} {t : hS} (h : INV t) : INV (itC f l Gf cf Gp cp pl t).2 := by
  obtain ⟨p, er, ws, op, nd, fo⟩ := t
  obtain ⟨h1, h2, h3, h4⟩ := h
  have h1 : op ≤ 8 := h1
  have h2 : nd ≤ 60 := h2
  have h3 : npF ws + fo.length ≤ nd := h3
  have h4 : ws.length = npF ws + op := h4
  have same : ∀ (p : Nat) (b : Bool), INV (p, b, ws, op, nd, fo) := fun _ _ => ⟨h1, h2, h3, h4⟩
  have push : ∀ (p : Nat) (b : Bool) (s n : Int32), ¬ 5 < s → nd < 60 → INV (p, b, ws ++ [(s, n)], op, nd + 1, fo) := fun p b s n hs hn => by
    have e := np_app ws (s, n)
    rw [if_pos (show (s, n).1 ≤ 7 from le_57 hs)] at e
    refine ⟨h1, by show nd + 1 ≤ 60; omega, by show npF (ws ++ [(s, n)]) + fo.length ≤ nd + 1; omega, ?_⟩
    show (ws ++ [(s, n)]).length = npF (ws ++ [(s, n)]) + op
    rw [List.length_append, List.length_singleton]
    omega
  unfold itC
  dsimp only
  by_cases c40 : kdE f l p = 40
  · rw [if_pos c40]
    dsimp only
    by_cases c8 : op < 8
    · rw [if_pos c8]
      have e := np_app ws (8, 0)
      rw [if_neg (show ¬ ((8 : Int32), (0 : Int32)).1 ≤ 7 by decide)] at e
      refine ⟨by show op + 1 ≤ 8; omega, h2, by show npF (ws ++ [(8, 0)]) + fo.length ≤ nd; omega, ?_⟩
      show (ws ++ [((8 : Int32), (0 : Int32))]).length = npF (ws ++ [(8, 0)]) + (op + 1)
      rw [List.length_append, List.length_singleton]
      omega
    · rw [if_neg c8]
      exact same _ _
  · rw [if_neg c40]
    by_cases cp1 : (¬ kdE f l p - 256 < 1 ∧ ¬ 5 < kdE f l p - 256) ∧ (kdE f l p - 256 = 1 ∨ pl = false)
    · rw [if_pos cp1]
      dsimp only
      by_cases c60 : nd < 60
      · rw [if_pos c60]
        by_cases cn : kdE f l p - 256 = 2 ∨ kdE f l p - 256 = 3
        · rw [if_pos cn]
          by_cases cm : kwN f l (nxE f l p) Gp cp = -1
          · rw [if_pos cm]
            exact push _ _ _ _ cp1.1.2 c60
          · rw [if_neg cm]
            exact push _ _ _ _ cp1.1.2 c60
        · rw [if_neg cn]
          exact push _ _ _ _ cp1.1.2 c60
      · rw [if_neg c60]
        exact same _ _
    · rw [if_neg cp1]
      dsimp only
      by_cases cm : kwN f l p Gf cf = -1
      · rw [if_pos cm]
        exact same _ _
      · rw [if_neg cm]
        by_cases c60 : nd < 60
        · rw [if_pos c60]
          refine ⟨h1, by show nd + 1 ≤ 60; omega, ?_, h4⟩
          show npF ws + (fo ++ [((0 : Int32), kwN f l p Gf cf)]).length ≤ nd + 1
          rw [List.length_append, List.length_singleton]
          omega
        · rw [if_neg c60]
          exact same _ _
theorem inv_jo {f : Nat → Int32} {l : Nat} {t : hS} (h : INV t) (hj : kdE f l t.1 - 256 = 6 ∨ kdE f l t.1 - 256 = 7) : INV (joC f l t) := by
  obtain ⟨p, er, ws, op, nd, fo⟩ := t
  obtain ⟨h1, h2, h3, h4⟩ := h
  have h1 : op ≤ 8 := h1
  have h2 : nd ≤ 60 := h2
  have h3 : npF ws + fo.length ≤ nd := h3
  have h4 : ws.length = npF ws + op := h4
  have hj : kdE f l p - 256 = 6 ∨ kdE f l p - 256 = 7 := hj
  unfold joC
  dsimp only
  by_cases c60 : nd < 60
  · rw [if_pos c60]
    generalize kdE f l p - 256 = s at *
    have h7 : s ≤ 7 := by
      rcases hj with e | e
      · rw [e]
        decide
      · rw [e]
        decide
    obtain ⟨r1, r2⟩ := rel_inv (s := s) (fun x hx => Int32.le_trans hx h7) ws.length ws fo rfl
    have e := np_app (relF s ws.length ws fo).1 (s, 0)
    rw [if_pos (show (s, (0 : Int32)).1 ≤ 7 from h7)] at e
    refine ⟨h1, by show nd + 1 ≤ 60; omega, by show npF ((relF s ws.length ws fo).1 ++ [(s, 0)]) + (relF s ws.length ws fo).2.length ≤ nd + 1; omega, ?_⟩
    show ((relF s ws.length ws fo).1 ++ [(s, (0 : Int32))]).length = npF ((relF s ws.length ws fo).1 ++ [(s, 0)]) + op
    rw [List.length_append, List.length_singleton]
    omega
  · rw [if_neg c60]
    exact ⟨h1, h2, h3, h4⟩
theorem rel_7 {ws fo : hW} {op nd : Nat} (h3 : npF ws + fo.length ≤ nd) (h4 : ws.length = npF ws + op) (ho : 1 ≤ op) : 1 ≤ (relF 7 ws.length ws fo).1.length := by
  obtain ⟨r1, r2⟩ := rel_inv (s := 7) (fun x hx => hx) ws.length ws fo rfl
  omega
theorem inv_cl {f : Nat → Int32} {l : Nat} {t : hS} (h : INV t) (ho : 0 < t.2.2.2.1) : INV (clC f l t) := by
  obtain ⟨p, er, ws, op, nd, fo⟩ := t
  obtain ⟨h1, h2, h3, h4⟩ := h
  have h1 : op ≤ 8 := h1
  have h2 : nd ≤ 60 := h2
  have h3 : npF ws + fo.length ≤ nd := h3
  have h4 : ws.length = npF ws + op := h4
  have ho : 0 < op := ho
  unfold clC
  dsimp only
  by_cases c : kdE f l p = 41
  · rw [if_pos c]
    obtain ⟨r1, r2⟩ := rel_inv (s := 7) (fun x hx => hx) ws.length ws fo rfl
    have hl := rel_7 h3 h4 ho
    have ht := np_top hl (rel_top 7 ws.length ws fo rfl)
    refine ⟨by show op - 1 ≤ 8; omega, h2, ?_, ?_⟩
    · show npF ((relF 7 ws.length ws fo).1.take ((relF 7 ws.length ws fo).1.length - 1)) + (relF 7 ws.length ws fo).2.length ≤ nd
      omega
    · show ((relF 7 ws.length ws fo).1.take ((relF 7 ws.length ws fo).1.length - 1)).length = npF ((relF 7 ws.length ws fo).1.take ((relF 7 ws.length ws fo).1.length - 1)) + (op - 1)
      rw [List.length_take, ht]
      omega
  · rw [if_neg c]
    exact ⟨h1, h2, h3, h4⟩
end N_o
