section N_zo
/-! ===== the formula of a law stands for a set of worlds ===== -/
theorem kd_in {f : Nat → Int32} {l p : Nat} {c : Int32} (h : kdE f l p = c) (hc : ¬ c = 267) : p < l := by
  refine Nat.lt_of_not_le fun z => ?_
  unfold kdE at h
  rw [if_neg (by omega)] at h
  exact hc h.symm
def njF (ws : hW) : Nat := (ws.filter fun x => decide (x.1 = 6 ∨ x.1 = 7)).length
theorem nj_app (ws : hW) (x : Int32 × Int32) : njF (ws ++ [x]) = njF ws + if x.1 = 6 ∨ x.1 = 7 then 1 else 0 := by
  unfold njF
  rw [List.filter_append, List.length_append]
  by_cases c : x.1 = 6 ∨ x.1 = 7
  · rw [List.filter_cons_of_pos (by exact decide_eq_true c), if_pos c]
    rfl
  · rw [List.filter_cons_of_neg (by rw [decide_eq_false c]; decide), if_neg c]
    rfl
theorem nj_np : ∀ ws : hW, njF ws ≤ npF ws
  | [] => Nat.le_refl 0
  | x :: ws => by
    have ih := nj_np ws
    unfold njF npF at *
    by_cases c : x.1 = 6 ∨ x.1 = 7
    · have c7 : x.1 ≤ 7 := by
        rcases c with e | e
        · rw [e]
          decide
        · rw [e]
          decide
      rw [List.filter_cons_of_pos (by exact decide_eq_true c), List.filter_cons_of_pos (by exact decide_eq_true c7), List.length_cons, List.length_cons]
      omega
    · rw [List.filter_cons_of_neg (by rw [decide_eq_false c]; decide)]
      by_cases c7 : x.1 ≤ 7
      · rw [List.filter_cons_of_pos (by exact decide_eq_true c7), List.length_cons]
        omega
      · rw [List.filter_cons_of_neg (by rw [decide_eq_false c7]; decide)]
        exact ih
theorem tk_one {ws : hW} {n : Nat} {x : Int32 × Int32} (hn : ws.length = n + 1) (hx : ws[n]? = some x) : ws = ws.take n ++ [x] := by
  have h1 := List.take_append_drop n ws
  have h2 : ws.drop n = [x] := by
    have h3 : (ws.drop n).length = 1 := by
      rw [List.length_drop]
      omega
    have h4 : (ws.drop n)[0]? = some x := by
      rw [List.getElem?_drop]
      exact hx
    match hd : ws.drop n, h3, h4 with
    | [z], _, h4 =>
      have h4 : some z = some x := h4
      rw [Option.some.inj h4]
  rw [h2] at h1
  exact h1.symm
theorem tv_one {left : Int32} {x : Int32 × Int32} : ∀ (fo : hW) (s0 st st2 : List Int32), tvF left fo s0 = some st → tvS left x st = some st2 → tvF left (fo ++ [x]) s0 = some st2
  | [], s0, st, st2, h1, h2 => by
    obtain rfl : s0 = st := Option.some.inj h1
    show (match tvS left x s0 with | some s2 => tvF left [] s2 | none => none) = some st2
    rw [h2]
    rfl
  | y :: fo, s0, st, st2, h1, h2 => by
    have h1 : (match tvS left y s0 with | some s2 => tvF left fo s2 | none => none) = some st := h1
    show (match tvS left y s0 with | some s2 => tvF left (fo ++ [x]) s2 | none => none) = some st2
    cases hs : tvS left y s0 with
    | none =>
      rw [hs] at h1
      cases h1
    | some s2 =>
      rw [hs] at h1
      exact tv_one fo s2 st st2 h1 h2
def JOK (x : Int32 × Int32) : Prop := x.1 = 1 ∨ x.1 = 6 ∨ x.1 = 7 ∨ x.1 = 8
/-- released: the stack stays in order -/
theorem tv_rel {fi s : Int32} (hs : ¬ (8 : Int32) ≤ s) : ∀ (n : Nat) (ws fo : hW), ws.length = n → (∀ x, x ∈ ws → JOK x) → (∃ st, tvF fi fo [] = some st ∧ st.length = njF ws + 1) → (∀ x, x ∈ (relF s n ws fo).1 → JOK x) ∧ ∃ st, tvF fi (relF s n ws fo).2 [] = some st ∧ st.length = njF (relF s n ws fo).1 + 1
  | 0, ws, fo, _, h1, h2 => ⟨h1, h2⟩
  | n + 1, ws, fo, hn, h1, h2 => by
    obtain ⟨x, hx⟩ : ∃ x, ws[n]? = some x := ⟨_, List.getElem?_eq_getElem (by omega)⟩
    unfold relF
    rw [hx]
    dsimp only
    by_cases c : x.1 ≤ s
    · rw [if_pos c]
      have ews := tk_one hn hx
      have hxm : x ∈ ws := by
        rw [ews]
        exact List.mem_append_right _ (List.mem_singleton.mpr rfl)
      refine tv_rel hs n (ws.take n) (fo ++ [x]) (by rw [List.length_take]; omega) (fun y hy => h1 y (List.mem_of_mem_take hy)) ?_
      obtain ⟨st, t1, t2⟩ := h2
      have enj : njF ws = njF (ws.take n) + if x.1 = 6 ∨ x.1 = 7 then 1 else 0 := by
        conv => lhs; rw [ews]
        exact nj_app _ _
      by_cases cj : x.1 = 6 ∨ x.1 = 7
      · rw [if_pos cj] at enj
        have n0 : ¬ x.1 = 0 := fun z => by
          rw [z] at cj
          exact absurd cj (by decide)
        match st, t1, t2 with
        | b :: a :: r, t1, t2 =>
          refine ⟨_, tv_one fo [] _ _ t1 ((if_neg n0).trans (if_pos cj)), ?_⟩
          rw [List.length_cons, List.length_cons] at t2
          rw [List.length_cons]
          omega
        | [b], t1, t2 =>
          rw [List.length_singleton] at t2
          omega
        | [], t1, t2 =>
          rw [List.length_nil] at t2
          omega
      · rw [if_neg cj] at enj
        have c1 : x.1 = 1 := by
          rcases h1 x hxm with e | e | e | e
          · exact e
          · exact absurd (Or.inl e) cj
          · exact absurd (Or.inr e) cj
          · rw [e] at c
            exact absurd c hs
        have n0 : ¬ x.1 = 0 := fun z => by
          rw [z] at c1
          exact absurd c1 (by decide)
        match st, t1, t2 with
        | a :: r, t1, t2 =>
          refine ⟨_, tv_one fo [] _ _ t1 ((if_neg n0).trans ((if_neg cj).trans (if_pos c1))), ?_⟩
          rw [List.length_cons] at t2 ⊢
          omega
        | [], t1, t2 =>
          rw [List.length_nil] at t2
          omega
    · rw [if_neg c]
      exact ⟨h1, h2⟩
section NF
variable {f : Nat → Int32} {l : Nat} {Gf Gp : Nat → Int32} {cf cp : Nat} {fi : Int32}
def WOK (fi : Int32) (needs : Bool) (t : hS) : Prop := (∀ x, x ∈ t.2.2.1 → JOK x) ∧ ∃ st, tvF fi t.2.2.2.2.2 [] = some st ∧ st.length = njF t.2.2.1 + if needs = true then 0 else 1
theorem wf_go (h5c : cf ≤ 5) : ∀ (g : Nat) (needs : Bool) (t : hS), t.2.1 = false → INV t → WOK fi needs t → t.1 ≤ l → l + 1 ≤ g + t.1 → (rlC (cRd f l Gf cf Gp cp true g needs t)).2.1 = false → ∃ v, tvF fi (rlC (cRd f l Gf cf Gp cp true g needs t)).2.2.2.2.2 [] = some [v]
  | 0, needs, t, _, _, _, h4, h5, _ => by omega
  | g + 1, needs, (p, e9, ws, op, nd, fo), h1, h2, ⟨h3, st, h3a, h3b⟩, h4, h5, hE => by
    obtain rfl : e9 = false := h1
    have h4 : p ≤ l := h4
    have h5 : l + 1 ≤ g + 1 + p := h5
    have h3 : ∀ x, x ∈ ws → JOK x := h3
    have h3a : tvF fi fo [] = some st := h3a
    have bad : ∀ (n : Bool) (p' : Nat) (ws' : hW) (op' nd' : Nat) (fo' : hW), cRd f l Gf cf Gp cp true (g + 1) needs (p, false, ws, op, nd, fo) = cRd f l Gf cf Gp cp true g n (p', true, ws', op', nd', fo') → ∃ v, tvF fi (rlC (cRd f l Gf cf Gp cp true (g + 1) needs (p, false, ws, op, nd, fo))).2.2.2.2.2 [] = some [v] := fun n p' ws' op' nd' fo' e => by
      rw [e, cr_er rfl] at hE
      cases hE
    cases needs with
    | true =>
      have h3b : st.length = njF ws + 0 := h3b
      have hcr := cr_it (f := f) (l := l) (Gf := Gf) (cf := cf) (Gp := Gp) (cp := cp) (pl := true) (t := (p, false, ws, op, nd, fo)) (g := g) rfl
      have hI := inv_it (f := f) (l := l) (Gf := Gf) (cf := cf) (Gp := Gp) (cp := cp) (pl := true) h2
      by_cases k40 : kdE f l p = 40
      · have hgt := nx_gt (f := f) (kd_in k40 (by decide))
        by_cases c8 : op < 8
        · have eit : itC f l Gf cf Gp cp true (p, false, ws, op, nd, fo) = (true, (nxE f l p, false, ws ++ [(8, 0)], op + 1, nd, fo)) := by
            unfold itC
            dsimp only
            rw [if_pos k40, if_pos c8]
          rw [eit] at hcr hI
          rw [hcr] at hE ⊢
          refine wf_go h5c g true _ rfl hI ⟨fun x hx => ?_, st, h3a, ?_⟩ hgt.2 (by show l + 1 ≤ g + nxE f l p; omega) hE
          · rcases List.mem_append.mp hx with z | z
            · exact h3 x z
            · rw [List.mem_singleton.mp z]
              exact Or.inr (Or.inr (Or.inr rfl))
          · show st.length = njF (ws ++ [(8, 0)]) + 0
            rw [nj_app, if_neg (show ¬ (((8 : Int32), (0 : Int32)).1 = 6 ∨ ((8 : Int32), (0 : Int32)).1 = 7) by decide)]
            omega
        · have eit : itC f l Gf cf Gp cp true (p, false, ws, op, nd, fo) = (true, (p, true, ws, op, nd, fo)) := by
            unfold itC
            dsimp only
            rw [if_pos k40, if_neg c8]
          exact bad true p ws op nd fo (by rw [hcr, eit])
      · by_cases cq : (¬ kdE f l p - 256 < 1 ∧ ¬ 5 < kdE f l p - 256) ∧ (kdE f l p - 256 = 1 ∨ true = false)
        · have hs : kdE f l p - 256 = 1 := by
            rcases cq.2 with z | z
            · exact z
            · cases z
          have hgt := nx_gt (f := f) (kd_in ((k256 (show (1 : Int32) + 256 = 257 by decide)).mp hs) (by decide))
          rw [hs] at cq
          by_cases c60 : nd < 60
          · have eit : itC f l Gf cf Gp cp true (p, false, ws, op, nd, fo) = (true, (nxE f l p, false, ws ++ [(1, 0)], op, nd + 1, fo)) := by
              unfold itC
              dsimp only
              rw [if_neg k40, hs, if_pos cq, if_pos c60, if_neg (by decide)]
            rw [eit] at hcr hI
            rw [hcr] at hE ⊢
            refine wf_go h5c g true _ rfl hI ⟨fun x hx => ?_, st, h3a, ?_⟩ hgt.2 (by show l + 1 ≤ g + nxE f l p; omega) hE
            · rcases List.mem_append.mp hx with z | z
              · exact h3 x z
              · rw [List.mem_singleton.mp z]
                exact Or.inl rfl
            · show st.length = njF (ws ++ [(1, 0)]) + 0
              rw [nj_app, if_neg (show ¬ (((1 : Int32), (0 : Int32)).1 = 6 ∨ ((1 : Int32), (0 : Int32)).1 = 7) by decide)]
              omega
          · have eit : itC f l Gf cf Gp cp true (p, false, ws, op, nd, fo) = (true, (p, true, ws, op, nd, fo)) := by
              unfold itC
              dsimp only
              rw [if_neg k40, hs, if_pos cq, if_neg c60]
            exact bad true p ws op nd fo (by rw [hcr, eit])
        · by_cases kn : kwN f l p Gf cf = -1
          · have eit : itC f l Gf cf Gp cp true (p, false, ws, op, nd, fo) = (false, (p, true, ws, op, nd, fo)) := by
              unfold itC
              dsimp only
              rw [if_neg k40, if_neg cq, if_pos kn]
            exact bad false p ws op nd fo (by rw [hcr, eit])
          · obtain ⟨w1, w2⟩ := kw_lt h5c kn
            have hgt := nx_gt (f := f) (kd_in w1 (by decide))
            by_cases c60 : nd < 60
            · have eit : itC f l Gf cf Gp cp true (p, false, ws, op, nd, fo) = (false, (nxE f l p, false, ws, op, nd + 1, fo ++ [(0, kwN f l p Gf cf)])) := by
                unfold itC
                dsimp only
                rw [if_neg k40, if_neg cq, if_neg kn, if_pos c60]
              rw [eit] at hcr hI
              rw [hcr] at hE ⊢
              have hlen : st.length < 60 := by
                have i3 : npF ws + fo.length ≤ nd := h2.2.2.1
                have := nj_np ws
                omega
              refine wf_go h5c g false _ rfl hI ⟨h3, _, tv_one fo [] st _ h3a ((if_pos rfl).trans (if_pos ⟨hlen, w2⟩)), ?_⟩ hgt.2 (by show l + 1 ≤ g + nxE f l p; omega) hE
              show (_ :: st).length = njF ws + 1
              rw [List.length_cons]
              omega
            · have eit : itC f l Gf cf Gp cp true (p, false, ws, op, nd, fo) = (false, (p, true, ws, op, nd, fo)) := by
                unfold itC
                dsimp only
                rw [if_neg k40, if_neg cq, if_neg kn, if_neg c60]
              exact bad false p ws op nd fo (by rw [hcr, eit])
    | false =>
      have h3b : st.length = njF ws + 1 := h3b
      by_cases cj : kdE f l p - 256 = 6 ∨ kdE f l p - 256 = 7
      · have hcr := cr_jn (f := f) (l := l) (Gf := Gf) (cf := cf) (Gp := Gp) (cp := cp) (pl := true) (t := (p, false, ws, op, nd, fo)) (g := g) rfl cj
        have hI := inv_jo (f := f) (l := l) h2 cj
        have hgt := nx_gt (f := f) (l := l) (p := p) (by
          rcases cj with z | z
          · exact kd_in ((k256 (show (6 : Int32) + 256 = 262 by decide)).mp z) (by decide)
          · exact kd_in ((k256 (show (7 : Int32) + 256 = 263 by decide)).mp z) (by decide))
        obtain ⟨s, hs⟩ : ∃ s, kdE f l p - 256 = s := ⟨_, rfl⟩
        rw [hs] at cj
        by_cases c60 : nd < 60
        · have ejo : joC f l (p, false, ws, op, nd, fo) = (nxE f l p, false, (relF s ws.length ws fo).1 ++ [(s, 0)], op, nd + 1, (relF s ws.length ws fo).2) := by
            unfold joC
            dsimp only
            rw [if_pos c60, hs]
          rw [ejo] at hcr hI
          rw [hcr] at hE ⊢
          obtain ⟨r1, st2, r2, r3⟩ := tv_rel (fi := fi) (s := s) (by
            rcases cj with z | z
            · rw [z]
              decide
            · rw [z]
              decide) ws.length ws fo rfl h3 ⟨st, h3a, h3b⟩
          refine wf_go h5c g true _ rfl hI ⟨fun x hx => ?_, st2, r2, ?_⟩ hgt.2 (by show l + 1 ≤ g + nxE f l p; omega) hE
          · rcases List.mem_append.mp hx with z | z
            · exact r1 x z
            · rw [List.mem_singleton.mp z]
              rcases cj with e | e
              · exact Or.inr (Or.inl e)
              · exact Or.inr (Or.inr (Or.inl e))
          · show st2.length = njF ((relF s ws.length ws fo).1 ++ [(s, 0)]) + 0
            rw [nj_app, if_pos (show (s, (0 : Int32)).1 = 6 ∨ (s, (0 : Int32)).1 = 7 from cj)]
            omega
        · have ejo : joC f l (p, false, ws, op, nd, fo) = (p, true, ws, op, nd, fo) := by
            unfold joC
            dsimp only
            rw [if_neg c60]
          exact bad true p ws op nd fo (by rw [hcr, ejo])
      · by_cases ho : 0 < op
        · have hcr := cr_cl (f := f) (l := l) (Gf := Gf) (cf := cf) (Gp := Gp) (cp := cp) (pl := true) (t := (p, false, ws, op, nd, fo)) (g := g) rfl cj ho
          have hI := inv_cl (f := f) (l := l) h2 ho
          by_cases k41 : kdE f l p = 41
          · have hgt := nx_gt (f := f) (kd_in k41 (by decide))
            have ecl : clC f l (p, false, ws, op, nd, fo) = (nxE f l p, false, (relF 7 ws.length ws fo).1.take ((relF 7 ws.length ws fo).1.length - 1), op - 1, nd, (relF 7 ws.length ws fo).2) := by
              unfold clC
              dsimp only
              rw [if_pos k41]
            rw [ecl] at hcr hI
            rw [hcr] at hE ⊢
            obtain ⟨r1, st2, r2, r3⟩ := tv_rel (fi := fi) (s := 7) (by decide) ws.length ws fo rfl h3 ⟨st, h3a, h3b⟩
            have hl := rel_7 h2.2.2.1 h2.2.2.2 ho
            have htp := rel_top 7 ws.length ws fo rfl
            refine wf_go h5c g false _ rfl hI ⟨fun x hx => r1 x (List.mem_of_mem_take hx), st2, r2, ?_⟩ hgt.2 (by show l + 1 ≤ g + nxE f l p; omega) hE
            show st2.length = njF ((relF 7 ws.length ws fo).1.take ((relF 7 ws.length ws fo).1.length - 1)) + 1
            obtain ⟨w, hw⟩ : ∃ w, (relF 7 ws.length ws fo).1 = w := ⟨_, rfl⟩
            rw [show relF 7 (p, false, ws, op, nd, fo).2.2.1.length (p, false, ws, op, nd, fo).2.2.1 (p, false, ws, op, nd, fo).2.2.2.2.2 = relF 7 ws.length ws fo from rfl] at hl
            rw [hw] at r3 hl htp ⊢
            obtain ⟨n, hn⟩ : ∃ n, w.length = n + 1 := ⟨w.length - 1, by omega⟩
            obtain ⟨y, hy⟩ : ∃ y, w[n]? = some y := ⟨_, List.getElem?_eq_getElem (by omega)⟩
            have hty : ¬ y.1 ≤ 7 := htp y (by rw [hn, Nat.add_sub_cancel]; exact hy)
            have ew := tk_one hn hy
            have e2 : njF w = njF (w.take n) + if y.1 = 6 ∨ y.1 = 7 then 1 else 0 := by
              conv => lhs; rw [ew]
              exact nj_app _ _
            rw [if_neg (fun z => hty (by
              rcases z with z | z
              · rw [z]
                decide
              · rw [z]
                decide))] at e2
            rw [hn, Nat.add_sub_cancel]
            omega
          · have ecl : clC f l (p, false, ws, op, nd, fo) = (p, true, ws, op, nd, fo) := by
              unfold clC
              dsimp only
              rw [if_neg k41]
            exact bad false p ws op nd fo (by rw [hcr, ecl])
        · have hend : cRd f l Gf cf Gp cp true (g + 1) false (p, false, ws, op, nd, fo) = (p, false, ws, op, nd, fo) := by
            have e : cRd f l Gf cf Gp cp true (g + 1) false (p, false, ws, op, nd, fo) = if false = true then (p, false, ws, op, nd, fo) else if false = true then cRd f l Gf cf Gp cp true g (itC f l Gf cf Gp cp true (p, false, ws, op, nd, fo)).1 (itC f l Gf cf Gp cp true (p, false, ws, op, nd, fo)).2 else if kdE f l p - 256 = 6 ∨ kdE f l p - 256 = 7 then cRd f l Gf cf Gp cp true g true (joC f l (p, false, ws, op, nd, fo)) else if 0 < op then cRd f l Gf cf Gp cp true g false (clC f l (p, false, ws, op, nd, fo)) else (p, false, ws, op, nd, fo) := rfl
            rw [e, if_neg (by decide), if_neg (by decide), if_neg cj, if_neg ho]
          rw [hend]
          obtain ⟨r1, st2, r2, r3⟩ := tv_rel (fi := fi) (s := 7) (by decide) ws.length ws fo rfl h3 ⟨st, h3a, h3b⟩
          obtain ⟨q1, q2⟩ := rel_inv (s := 7) (fun x hx => hx) ws.length ws fo rfl
          have htp := rel_top 7 ws.length ws fo rfl
          show ∃ v, tvF fi (relF 7 ws.length ws fo).2 [] = some [v]
          have i4 : ws.length = npF ws + op := h2.2.2.2
          obtain ⟨w, hw⟩ : ∃ w, (relF 7 ws.length ws fo).1 = w := ⟨_, rfl⟩
          rw [hw] at r3 q1 q2 htp
          have w0 : w = [] := by
            cases hw0 : w.length with
            | zero => exact List.length_eq_zero_iff.mp hw0
            | succ n =>
              obtain ⟨y, hy⟩ : ∃ y, w[n]? = some y := ⟨_, List.getElem?_eq_getElem (by omega)⟩
              have hty : ¬ y.1 ≤ 7 := htp y (by rw [hw0, Nat.add_sub_cancel]; exact hy)
              have e3 := np_top (ws := w) (by omega) htp
              have e4 : npF (w.take (w.length - 1)) ≤ (w.take (w.length - 1)).length := List.length_filter_le _ _
              rw [e3, List.length_take] at e4
              omega
          rw [w0] at r3
          match st2, r2, r3 with
          | [v], r2, r3 => exact ⟨v, r2⟩
theorem wf_ok (hl : l ≤ 600) : WFR f l := fun Gf cf Gp cp p fi h5c hp hE => by
  have hn : nxE f l p ≤ l := by
    unfold nxE
    by_cases c : p < l
    · have := (nx_gt (f := f) c).2
      unfold nxE at this
      exact this
    · rw [if_neg c]
      exact hp
  exact wf_go h5c 601 true (nxE f l p, false, [], 0, 0, []) rfl ⟨Nat.zero_le _, Nat.zero_le _, Nat.le_refl 0, rfl⟩ ⟨fun x hx => absurd hx (List.not_mem_nil), [], rfl, rfl⟩ hn (by show l + 1 ≤ 601 + nxE f l p; omega) hE
end NF
end N_zo
