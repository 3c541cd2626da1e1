section N_zl
/-! ===== a formula on both sides: the items ===== -/
theorem RE.cg {f : Nat → Int32} {l p : Nat} {e : Bool} {T T' : hP} (h : RE f l p e T) (h1 : T'.1 = T.1) (h2 : er T' = er T) : RE f l p e T' := by
  unfold RE at h ⊢
  rw [h1, h2]
  exact h
theorem rng5 {y : Int32} (h1 : ¬ y < 1) (h2 : ¬ 5 < y) : y = 1 ∨ y = 2 ∨ y = 3 ∨ y = 4 ∨ y = 5 := by
  rw [Int32.lt_iff_toInt_lt] at h1 h2
  have a1 : (1 : Int32).toInt = 1 := by decide
  have a2 : (2 : Int32).toInt = 2 := by decide
  have a3 : (3 : Int32).toInt = 3 := by decide
  have a4 : (4 : Int32).toInt = 4 := by decide
  have a5 : (5 : Int32).toInt = 5 := by decide
  have h : y.toInt = 1 ∨ y.toInt = 2 ∨ y.toInt = 3 ∨ y.toInt = 4 ∨ y.toInt = 5 := by omega
  rcases h with h | h | h | h | h
  · exact Or.inl (Int32.toInt_inj.mp (h.trans a1.symm))
  · exact Or.inr (Or.inl (Int32.toInt_inj.mp (h.trans a2.symm)))
  · exact Or.inr (Or.inr (Or.inl (Int32.toInt_inj.mp (h.trans a3.symm))))
  · exact Or.inr (Or.inr (Or.inr (Or.inl (Int32.toInt_inj.mp (h.trans a4.symm)))))
  · exact Or.inr (Or.inr (Or.inr (Or.inr (Int32.toInt_inj.mp (h.trans a5.symm)))))
theorem kd_rng {x : Int32} (h1 : ¬ x = 257) (h2 : ¬ x = 258) (h3 : ¬ x = 259) (h4 : ¬ x = 260) (h5 : ¬ x = 261) : ¬ (¬ x - 256 < 1 ∧ ¬ 5 < x - 256) := fun z => by
  rcases rng5 z.1 z.2 with e | e | e | e | e
  · exact h1 ((k256 (by decide)).mp e)
  · exact h2 ((k256 (by decide)).mp e)
  · exact h3 ((k256 (by decide)).mp e)
  · exact h4 ((k256 (by decide)).mp e)
  · exact h5 ((k256 (by decide)).mp e)
theorem kw_lt {f : Nat → Int32} {l p : Nat} {G : Nat → Int32} {c : Nat} (h5 : c ≤ 5) (h : ¬ kwN f l p G c = -1) : kdE f l p = 256 ∧ mm_un (kwN f l p G c) < 5 := by
  unfold kwN at h ⊢
  by_cases k : kdE f l p = 256
  · rw [if_pos k] at h ⊢
    refine ⟨k, ?_⟩
    rcases fd_lt (fun k => decide (G k = nmE f l p)) c 0 with e | ⟨i, i1, i2, i3, e⟩
    · exact absurd e h
    · have e : fdF G c (nmE f l p) = Int32.ofNat i := e
      rw [e, i_un (by omega)]
      omega
  · rw [if_neg k] at h
    exact absurd rfl h
section NF
variable {G f : Nat → Int32} {l bs : Nat} {pl : Bool} {Gf Gp : Nat → Int32} {cf cp : Nat}
/-- the runs of one part from place m on -/
def RUN (f : Nat → Int32) (l bs : Nat) (pl : Bool) (Gf : Nat → Int32) (cf : Nat) (Gp : Nat → Int32) (cp m : Nat) (R : hR) (md : Nat) (B : Int32) (C : Nat → Prop) (TP : hW → Prop) : Prop := ∀ (t : hS) (q : hQ) (st : List Nat) (G0 : Nat), CQ f l bs pl t q [] st → TP t.2.2.1 → l + 1 ≤ G0 + t.1 → m ≤ t.1 → FIN f l bs pl Gf cf Gp cp 1 G0 true t t.2.2.1 B C st (R md 0 q)
def TOPB (s : Int32) (ws : hW) : Prop := ∀ x, ws[ws.length - 1]? = some x → ¬ x.1 ≤ s
/-- a parenthesis -/
theorem it_in {R : hR} {t : hS} {q : hQ} {st : List Nat} {G0 : Nat} (hQ9 : CQ f l bs pl t q [] st) (hg : l + 1 ≤ G0 + t.1) (hk : kdE f l t.1 = 40) (IH : RUN f l bs pl Gf cf Gp cp (t.1 + 1) R 2 7 (fun p => ¬ kdE f l p = 262 ∧ ¬ kdE f l p = 263) (TOPB 7)) : FIN f l bs pl Gf cf Gp cp 1 G0 true t t.2.2.1 5 (fun _ => True) st (inQ f l R (nxQ f l q)) := by
  obtain ⟨p, e9, ws, op, nd, fo⟩ := t
  obtain ⟨h1, h2, h3, h4, h5, h6, h7, h8, h9⟩ := hQ9
  obtain rfl : e9 = false := h1
  have e0 := h2.1.mpr rfl
  obtain ⟨hp, hT⟩ := h2.2 rfl
  have hk : kdE f l p = 40 := hk
  have h4 : op = q.2.2.1 := h4
  obtain ⟨hpl, hnx⟩ := sg_nx (c := 40) (by decide) (by decide) ((sg_k (by decide) (by decide) (by decide)).mp hk)
  have hgt := nx_gt (f := f) hpl
  obtain ⟨G1, rfl⟩ : ∃ G1, G0 = G1 + 1 := ⟨G0 - 1, by have hg : l + 1 ≤ G0 + p := hg; omega⟩
  have hg : l + 1 ≤ G1 + 1 + p := hg
  have hcr := cr_it (f := f) (l := l) (Gf := Gf) (cf := cf) (Gp := Gp) (cp := cp) (pl := pl) (t := (p, false, ws, op, nd, fo)) (g := G1) rfl
  have hI := inv_it (f := f) (l := l) (Gf := Gf) (cf := cf) (Gp := Gp) (cp := cp) (pl := pl) h5
  by_cases c8 : op < 8
  · have eit : itC f l Gf cf Gp cp pl (p, false, ws, op, nd, fo) = (true, (nxE f l p, false, ws ++ [(8, 0)], op + 1, nd, fo)) := by
      unfold itC
      dsimp only
      rw [if_pos hk, if_pos c8]
    rw [eit] at hcr hI
    have hmu : muP (if (nxQ f l q).2.2.1 < 8 then 1 else 0) 1 (nxQ f l q).2.2.2 = muP 1 1 (nxP f l q.2.2.2) := by
      rw [if_pos (show (nxQ f l q).2.2.1 < 8 by rw [show (nxQ f l q).2.2.1 = q.2.2.1 from rfl, ← h4]; exact c8)]
      rfl
    have e1 : er (muP 1 1 (nxP f l q.2.2.2)) = 0 := by
      rw [er_mu1]
      exact e0
    unfold inQ
    rw [hmu, if_pos e1]
    have hRE : RE f l (nxE f l p) false (upP (muP 1 1 (nxP f l q.2.2.2))) := by
      refine RE.g e1 ?_ ?_
      · rw [hnx]
        show sk f l (p + 1) = sk f l (sk f l q.2.2.2.1 + 1)
        rw [← hp]
      · show sk f l q.2.2.2.1 + 1 ≤ l
        rw [← hp]
        exact hpl
    have F1 := IH (nxE f l p, false, ws ++ [(8, 0)], op + 1, nd, fo) (q.1, q.2.1, q.2.2.1 + 1, upP (muP 1 1 (nxP f l q.2.2.2))) st G1 ⟨rfl, hRE, h3, by show op + 1 = q.2.2.1 + 1; rw [h4], hI, h6, h7, h8, hgt.2⟩ (top_app (show ¬ ((8 : Int32), (0 : Int32)).1 ≤ 7 by decide)) (by show l + 1 ≤ G1 + nxE f l p; omega) hgt.1
    have F1 : FIN f l bs pl Gf cf Gp cp 1 G1 true (nxE f l p, false, ws ++ [(8, 0)], op + 1, nd, fo) (ws ++ [(8, 0)]) 7 (fun p => ¬ kdE f l p = 262 ∧ ¬ kdE f l p = 263) st (R 2 0 ((nxQ f l q).1, (nxQ f l q).2.1, (nxQ f l q).2.2.1 + 1, upP (muP 1 1 (nxP f l q.2.2.2)))) := F1
    obtain ⟨R1, hR1⟩ : ∃ R1, R 2 0 ((nxQ f l q).1, (nxQ f l q).2.1, (nxQ f l q).2.2.1 + 1, upP (muP 1 1 (nxP f l q.2.2.2))) = R1 := ⟨_, rfl⟩
    rw [hR1] at F1 ⊢
    rcases F1 with ⟨b1, b2⟩ | ⟨G', t', r, k, b1, b2, b3, b4, b5, b6, b7, b8⟩
    · refine Or.inl ⟨?_, by rw [hcr]; exact b2⟩
      show ¬ er (sgP f l 41 R1.2.2.2.2) = 0
      unfold sgP
      rw [if_neg b1]
      exact b1
    · obtain ⟨p', e9, ws', op', nd', fo'⟩ := t'
      have hw : ws' = (ws ++ [(8, 0)]) ++ r.reverse := b4
      obtain ⟨d1, d2, d3, d4, d5, d6, d7, d8, d9⟩ := b6
      obtain rfl : e9 = false := d1
      have d9 : p' ≤ l := d9
      have hop : 0 < op' := by
        obtain ⟨_, _, _, i4⟩ := d5
        have i4 : ws'.length = npF ws' + op' := i4
        have j4 : ws.length = npF ws + op := h5.2.2.2
        rw [hw, np_rev _ r b5, np_app, if_neg (show ¬ ((8 : Int32), (0 : Int32)).1 ≤ 7 by decide), List.length_append, List.length_append, List.length_singleton, List.length_reverse] at i4
        omega
      have b3 : nxE f l p + 1 ≤ p' := b3
      have b2 : l + 1 ≤ G' + p' := b2
      obtain ⟨G2, rfl⟩ : ∃ G2, G' = G2 + 1 := ⟨G' - 1, by omega⟩
      have hcl := cr_cl (f := f) (l := l) (Gf := Gf) (cf := cf) (Gp := Gp) (cp := cp) (pl := pl) (t := (p', false, ws', op', nd', fo')) (g := G2) rfl (fun z => by
        rcases z with z | z
        · exact b8.1 ((k256 (by decide)).mp z)
        · exact b8.2 ((k256 (by decide)).mp z)) hop
      have hI2 := inv_cl (f := f) (l := l) d5 hop
      have hS := re_sg (c := 41) (by decide) (by decide) (by decide) d2
      by_cases k41 : kdE f l p' = 41
      · have hrel : relF 7 ws'.length ws' fo' = (ws ++ [(8, 0)], fo' ++ r) := by
          rw [hw]
          exact relF_pre (top_app (show ¬ ((8 : Int32), (0 : Int32)).1 ≤ 7 by decide)) r fo' b5
        have ecl : clC f l (p', false, ws', op', nd', fo') = (nxE f l p', false, ws, op' - 1, nd', fo' ++ r) := by
          unfold clC
          dsimp only
          rw [if_pos k41, hrel]
          dsimp only
          rw [List.length_append, List.length_singleton, Nat.add_sub_cancel, List.take_left' rfl]
        rw [ecl] at hcl hI2
        have hS : RE f l (nxE f l p') false (sgP f l 41 R1.2.2.2.2) := by
          rw [show kdE f l (p', false, ws', op', nd', fo').1 = 41 from k41, if_pos rfl, decide_eq_true rfl] at hS
          exact hS
        obtain ⟨hpl2, _⟩ := sg_nx (c := 41) (by decide) (by decide) ((sg_k (by decide) (by decide) (by decide)).mp k41)
        have hgt2 := nx_gt (f := f) hpl2
        refine Or.inr ⟨G2, _, [], k, hcr.trans (b1.trans hcl), by show l + 1 ≤ G2 + nxE f l p'; omega, by show p + 1 ≤ nxE f l p'; omega, ?_, fun x hx => absurd hx (List.not_mem_nil), ?_, b7, trivial⟩
        · show ws = ws ++ [].reverse
          rw [List.reverse_nil, List.append_nil]
        · refine ⟨rfl, hS, d3, ?_, hI2, ?_, ?_, ?_, hgt2.2⟩
          · show op' - 1 = R1.2.2.2.1 - 1
            rw [show op' = R1.2.2.2.1 from d4]
          · show R1.2.1 bs = Int32.ofNat ((fo' ++ r).length + 0)
            rw [List.length_append, Nat.add_zero]
            exact d6
          · show ndR R1.2.1 bs ((fo' ++ r) ++ []) [] 0 (k :: st)
            rw [List.append_nil]
            exact d7
          · show ∀ x, x ∈ (fo' ++ r) ++ [] → OKX pl x
            rw [List.append_nil]
            exact d8
      · have ecl : clC f l (p', false, ws', op', nd', fo') = (p', true, ws', op', nd', fo') := by
          unfold clC
          dsimp only
          rw [if_neg k41]
        refine Or.inl ⟨fun z => ?_, ?_⟩
        · have hS1 := hS.1.mp z
          rw [decide_eq_false (show ¬ kdE f l (p', false, ws', op', nd', fo').1 = 41 from k41)] at hS1
          cases hS1
        · rw [hcr, b1, hcl, ecl, cr_er rfl]
  · have eit : itC f l Gf cf Gp cp pl (p, false, ws, op, nd, fo) = (true, (p, true, ws, op, nd, fo)) := by
      unfold itC
      dsimp only
      rw [if_pos hk, if_neg c8]
    have hmu : muP (if (nxQ f l q).2.2.1 < 8 then 1 else 0) 1 (nxQ f l q).2.2.2 = muP 0 1 (nxP f l q.2.2.2) := by
      rw [if_neg (show ¬ (nxQ f l q).2.2.1 < 8 by rw [show (nxQ f l q).2.2.1 = q.2.2.1 from rfl, ← h4]; exact c8)]
      rfl
    have e1 : ¬ er (muP 0 1 (nxP f l q.2.2.2)) = 0 := by
      rw [er_mu0 (show er (nxP f l q.2.2.2) = 0 from e0)]
      decide
    unfold inQ
    rw [hmu, if_neg e1]
    refine Or.inl ⟨e1, ?_⟩
    rw [hcr, eit, cr_er rfl]
/-- a prefix waits: the reference makes its node behind the item -/
theorem pf_mk {x : Int32 × Int32} {C : Nat → Prop} {G1 : Nat} {t1 : hS} {base : hW} {st : List Nat} {R1 : Int32 × hQ} (hx : 1 ≤ x.1 ∧ x.1 ≤ 5) (hp : pl = true → x.1 = 1) (h : FIN f l bs pl Gf cf Gp cp 1 G1 true t1 (base ++ [x]) 5 C st R1) : FIN f l bs pl Gf cf Gp cp 1 G1 true t1 base 5 C st (mkQ bs R1.2 (kM x.1) R1.1 x.2) := by
  rcases h with ⟨b1, b2⟩ | ⟨G', t', r, k, b1, b2, b3, b4, b5, b6, b7, b8⟩
  · exact Or.inl ⟨b1, b2⟩
  · have hx7 : x.1 ≤ 7 := Int32.le_trans hx.2 (by decide)
    obtain ⟨m1, m2⟩ := cq_len b6 b4 fun y hy => Int32.le_trans (b5 y hy) (by decide)
    have hnp : npF (base ++ [x]) = npF base + 1 := by
      rw [np_app, if_pos hx7]
    have hx0 : ¬ x.1 = 0 := fun z => by
      have := hx.1
      rw [z] at this
      exact absurd this (by decide)
    obtain ⟨c1, c2, c3⟩ := cq_mk (x := x) (a := R1.1) (c := x.2) (st' := (t'.2.2.2.2.2 ++ r).length :: st) b6 (by omega) ⟨fun z => absurd z hx0, fun z => Or.inr (Or.inl (hp z))⟩ (fun F' f1 f2 f3 => ⟨f1, Or.inr (Or.inl ⟨hx, k, st, rfl, f2.trans b7, f3, rfl⟩)⟩)
    refine Or.inr ⟨G', t', r ++ [x], _, b1, b2, b3, ?_, fun y hy => ?_, c1, c2, b8⟩
    · rw [b4, List.reverse_append, List.reverse_singleton, List.append_assoc]
    · rcases List.mem_append.mp hy with z | z
      · exact b5 y z
      · rw [List.mem_singleton.mp z]
        exact hx.2
/-- NOT -/
theorem it_nt {R : hR} {t : hS} {q : hQ} {st : List Nat} {G0 : Nat} (hB : BYT f l) (hQ9 : CQ f l bs pl t q [] st) (hg : l + 1 ≤ G0 + t.1) (hk : kdE f l t.1 = 257) (IH : RUN f l bs pl Gf cf Gp cp (t.1 + 1) R 0 5 (fun _ => True) (fun _ => True)) : FIN f l bs pl Gf cf Gp cp 1 G0 true t t.2.2.1 5 (fun _ => True) st (ntQ bs R (nxQ f l q)) := by
  obtain ⟨p, e9, ws, op, nd, fo⟩ := t
  obtain ⟨h1, h2, h3, h4, h5, h6, h7, h8, h9⟩ := hQ9
  obtain rfl : e9 = false := h1
  have e0 := h2.1.mpr rfl
  have hk : kdE f l p = 257 := hk
  have h3 : nd = q.2.1 := h3
  have hwl : ¬ wl f l p = 0 := wl_big (c := 257) hB (by decide) (by decide) hk
  obtain ⟨hpl, hnx⟩ := wd_nx hwl
  have hgt := nx_gt (f := f) hpl
  obtain ⟨G1, rfl⟩ : ∃ G1, G0 = G1 + 1 := ⟨G0 - 1, by have hg : l + 1 ≤ G0 + p := hg; omega⟩
  have hg : l + 1 ≤ G1 + 1 + p := hg
  have hcr := cr_it (f := f) (l := l) (Gf := Gf) (cf := cf) (Gp := Gp) (cp := cp) (pl := pl) (t := (p, false, ws, op, nd, fo)) (g := G1) rfl
  have hI := inv_it (f := f) (l := l) (Gf := Gf) (cf := cf) (Gp := Gp) (cp := cp) (pl := pl) h5
  have hs : kdE f l p - 256 = 1 := (k256 (by decide)).mpr hk
  have h40 : ¬ kdE f l p = 40 := by
    rw [hk]
    decide
  by_cases c60 : nd < 60
  · have eit : itC f l Gf cf Gp cp pl (p, false, ws, op, nd, fo) = (true, (nxE f l p, false, ws ++ [(1, 0)], op, nd + 1, fo)) := by
      unfold itC
      dsimp only
      rw [if_neg h40, hs, if_pos ⟨by decide, Or.inl rfl⟩, if_pos c60, if_neg (by decide)]
    rw [eit] at hcr hI
    have eco : coP q.2.1 (nxP f l q.2.2.2) = muP 1 3 (nxP f l q.2.2.2) := by
      unfold coP
      rw [if_pos (by omega)]
    have e1 : er (muP 1 3 (nxP f l q.2.2.2)) = 0 := by
      rw [er_mu1]
      exact e0
    unfold ntQ
    show FIN f l bs pl Gf cf Gp cp 1 (G1 + 1) true (p, false, ws, op, nd, fo) ws 5 (fun _ => True) st (if er (coP q.2.1 (nxP f l q.2.2.2)) = 0 then mkQ bs (R 0 0 (q.1, q.2.1 + 1, q.2.2.1, goP (coP q.2.1 (nxP f l q.2.2.2)))).2 1 (R 0 0 (q.1, q.2.1 + 1, q.2.2.1, goP (coP q.2.1 (nxP f l q.2.2.2)))).1 0 else (0, q.1, q.2.1 + 1, q.2.2.1, coP q.2.1 (nxP f l q.2.2.2)))
    rw [eco, if_pos e1]
    have F1 := IH (nxE f l p, false, ws ++ [(1, 0)], op, nd + 1, fo) (q.1, q.2.1 + 1, q.2.2.1, goP (muP 1 3 (nxP f l q.2.2.2))) st G1 ⟨rfl, re_go h2 hwl 3, by show nd + 1 = q.2.1 + 1; omega, h4, hI, h6, h7, h8, hgt.2⟩ trivial (by show l + 1 ≤ G1 + nxE f l p; omega) hgt.1
    have F2 := pf_mk (x := (1, 0)) ⟨by decide, by decide⟩ (fun _ => rfl) F1
    exact F2.pre hcr (by show p + 1 ≤ nxE f l p + 1; omega)
  · have eit : itC f l Gf cf Gp cp pl (p, false, ws, op, nd, fo) = (true, (p, true, ws, op, nd, fo)) := by
      unfold itC
      dsimp only
      rw [if_neg h40, hs, if_pos ⟨by decide, Or.inl rfl⟩, if_neg c60]
    have e1 : ¬ er (coP q.2.1 (nxP f l q.2.2.2)) = 0 := by
      unfold coP
      rw [if_neg (by omega), er_mu0 (show er (nxP f l q.2.2.2) = 0 from e0)]
      decide
    unfold ntQ
    refine Or.inl ⟨?_, by rw [hcr, eit, cr_er rfl]⟩
    rw [if_neg (show ¬ er (coP (nxQ f l q).2.1 (nxQ f l q).2.2.2) = 0 from e1)]
    exact e1
end NF
end N_zl
