section N_zm
/-! ===== a formula on both sides: modal words, facts ===== -/
section NF
variable {G f : Nat → Int32} {l bs : Nat} {pl : Bool} {Gf Gp : Nat → Int32} {cf cp : Nat}
/-- knows, maybe, all, common -/
theorem it_ml {R : hR} (hbad : ∀ md k (q : hQ), ¬ er q.2.2.2 = 0 → ¬ er (R md k q).2.2.2.2 = 0) {t : hS} {q : hQ} {st : List Nat} {G0 : Nat} {s c kd : Int32} (hB : BYT f l) (hcp5 : cp ≤ 5) (hP : ∀ k, k < cp → NRc G (115 + 7 * k) (Gp k)) (hQ9 : CQ f l bs pl t q [] st) (hg : l + 1 ≤ G0 + t.1) (hk : kdE f l t.1 = c) (hc : s + 256 = c) (hc2 : ∃ n : Nat, 257 ≤ n ∧ n ≤ 265 ∧ c = Int32.ofNat n) (hs : s = 2 ∨ s = 3 ∨ s = 4 ∨ s = 5) (hkd : kd = kM s) (h45 : (kd = 4 ∨ kd = 5) ↔ (s = 2 ∨ s = 3)) (IH : RUN f l bs pl Gf cf Gp cp (t.1 + 1) R 0 5 (fun _ => True) (fun _ => True)) : FIN f l bs pl Gf cf Gp cp 1 G0 true t t.2.2.1 5 (fun _ => True) st (mlQ G f l bs pl cp R kd (nxQ f l q)) := by
  obtain ⟨p, e9, ws, op, nd, fo⟩ := t
  obtain ⟨h1, h2, h3, h4, h5, h6, h7, h8, h9⟩ := hQ9
  obtain rfl : e9 = false := h1
  have e0 := h2.1.mpr rfl
  have hk : kdE f l p = c := hk
  have h3 : nd = q.2.1 := h3
  obtain ⟨n, n1, n2, n3⟩ := hc2
  have hwl : ¬ wl f l p = 0 := wl_big (c := n) hB n1 n2 (hk.trans n3)
  obtain ⟨hpl, hnx⟩ := wd_nx hwl
  have hgt := nx_gt (f := f) hpl
  obtain ⟨G1, rfl⟩ : ∃ G1, G0 = G1 + 1 := ⟨G0 - 1, by have hg : l + 1 ≤ G0 + p := hg; omega⟩
  have hg : l + 1 ≤ G1 + 1 + p := hg
  have hcr := cr_it (f := f) (l := l) (Gf := Gf) (cf := cf) (Gp := Gp) (cp := cp) (pl := pl) (t := (p, false, ws, op, nd, fo)) (g := G1) rfl
  have hI := inv_it (f := f) (l := l) (Gf := Gf) (cf := cf) (Gp := Gp) (cp := cp) (pl := pl) h5
  have hsk : kdE f l p - 256 = s := (k256 hc).mpr hk
  have hs1 : ¬ s = 1 ∧ (¬ s < 1 ∧ ¬ 5 < s) ∧ (1 ≤ s ∧ s ≤ 5) ∧ ¬ c = 40 ∧ ¬ c = 256 := by
    rw [← hc]
    rcases hs with e | e | e | e
    · rw [e]
      decide
    · rw [e]
      decide
    · rw [e]
      decide
    · rw [e]
      decide
  have h40 : ¬ kdE f l p = 40 := by
    rw [hk]
    exact hs1.2.2.2.1
  cases pl with
  | true =>
    have kn : kwN f l p Gf cf = -1 := by
      unfold kwN
      rw [if_neg (by rw [hk]; exact hs1.2.2.2.2)]
    have eit : itC f l Gf cf Gp cp true (p, false, ws, op, nd, fo) = (false, (p, true, ws, op, nd, fo)) := by
      unfold itC
      dsimp only
      rw [if_neg h40, hsk, if_neg (fun z => by rcases z.2 with z | z; exact hs1.1 z; cases z), if_pos kn]
    have e1 : ¬ er (mlT true kd (nxQ f l q)) = 0 := fun z => by
      have z2 : er (muP 0 1 (nxP f l q.2.2.2)) = 0 := mu_er (by decide) z
      rw [er_mu0 (show er (nxP f l q.2.2.2) = 0 from e0)] at z2
      exact absurd z2 (by decide)
    unfold mlQ
    rw [if_neg e1]
    exact Or.inl ⟨e1, by rw [hcr, eit, cr_er rfl]⟩
  | false =>
    by_cases c60 : nd < 60
    · have eT : mlT false kd (nxQ f l q) = muP 1 3 (muP 1 1 (nxP f l q.2.2.2)) := by
        unfold mlT coP
        rw [if_pos (show (nxQ f l q).2.1 + 1 ≤ 60 from (show q.2.1 + 1 ≤ 60 by omega)), if_neg (show ¬ false = true by decide)]
        rfl
      have e1 : er (muP 1 3 (muP 1 1 (nxP f l q.2.2.2))) = 0 := by
        rw [er_mu1, er_mu1]
        exact e0
      have hRE : RE f l (nxE f l p) false (goP (muP 1 3 (muP 1 1 (nxP f l q.2.2.2)))) := (re_go h2 hwl 1).cg rfl (show er (muP 1 3 (muP 1 1 (nxP f l q.2.2.2))) = er (muP 1 1 (nxP f l q.2.2.2)) from er_mu1)
      unfold mlQ mlK
      rw [eT, if_pos e1]
      by_cases cs : s = 2 ∨ s = 3
      · rw [if_pos (h45.mpr cs)]
        obtain ⟨k1, k2⟩ := re_kn (bs := 115) hB hRE hP
        by_cases kn : kwN f l (nxE f l p) Gp cp = -1
        · have eit : itC f l Gf cf Gp cp false (p, false, ws, op, nd, fo) = (true, (nxE f l p, true, ws ++ [(s, -1)], op, nd + 1, fo)) := by
            unfold itC
            dsimp only
            rw [if_neg h40, hsk, if_pos ⟨hs1.2.1, Or.inr rfl⟩, if_pos c60, if_pos cs, if_pos kn]
          have e2 : ¬ er (knP G f l 115 cp (goP (muP 1 3 (muP 1 1 (nxP f l q.2.2.2))))).2 = 0 := fun z => by
            have z2 := k1.1.mp z
            rw [decide_eq_true kn] at z2
            cases z2
          exact Or.inl ⟨hbad 0 0 _ e2, by rw [hcr, eit, cr_er rfl]⟩
        · have eit : itC f l Gf cf Gp cp false (p, false, ws, op, nd, fo) = (true, (nxE f l (nxE f l p), false, ws ++ [(s, kwN f l (nxE f l p) Gp cp)], op, nd + 1, fo)) := by
            unfold itC
            dsimp only
            rw [if_neg h40, hsk, if_pos ⟨hs1.2.1, Or.inr rfl⟩, if_pos c60, if_pos cs, if_neg kn]
          rw [eit] at hcr hI
          rw [if_neg kn, decide_eq_false kn] at k1
          have hgt2 := nx_gt (f := f) (wd_nx (kd_w hB (kw_lt (c := cp) hcp5 kn).1)).1
          have F1 := IH (nxE f l (nxE f l p), false, ws ++ [(s, kwN f l (nxE f l p) Gp cp)], op, nd + 1, fo) (q.1, q.2.1 + 1, q.2.2.1, (knP G f l 115 cp (goP (muP 1 3 (muP 1 1 (nxP f l q.2.2.2))))).2) st G1 ⟨rfl, k1, by show nd + 1 = q.2.1 + 1; omega, h4, hI, h6, h7, h8, hgt2.2⟩ trivial (by show l + 1 ≤ G1 + nxE f l (nxE f l p); omega) (by show p + 1 ≤ nxE f l (nxE f l p); omega)
          have F2 := pf_mk (x := (s, kwN f l (nxE f l p) Gp cp)) hs1.2.2.1 (fun z => by cases z) F1
          rw [k2 kn, hkd]
          exact F2.pre hcr (by show p + 1 ≤ nxE f l (nxE f l p) + 1; omega)
      · rw [if_neg (fun z => cs (h45.mp z))]
        have eit : itC f l Gf cf Gp cp false (p, false, ws, op, nd, fo) = (true, (nxE f l p, false, ws ++ [(s, 0)], op, nd + 1, fo)) := by
          unfold itC
          dsimp only
          rw [if_neg h40, hsk, if_pos ⟨hs1.2.1, Or.inr rfl⟩, if_pos c60, if_neg cs]
        rw [eit] at hcr hI
        have F1 := IH (nxE f l p, false, ws ++ [(s, 0)], op, nd + 1, fo) (q.1, q.2.1 + 1, q.2.2.1, goP (muP 1 3 (muP 1 1 (nxP f l q.2.2.2)))) st G1 ⟨rfl, hRE, by show nd + 1 = q.2.1 + 1; omega, h4, hI, h6, h7, h8, hgt.2⟩ trivial (by show l + 1 ≤ G1 + nxE f l p; omega) hgt.1
        have F2 := pf_mk (x := (s, 0)) hs1.2.2.1 (fun z => by cases z) F1
        rw [hkd]
        exact F2.pre hcr (by show p + 1 ≤ nxE f l p + 1; omega)
    · have eit : itC f l Gf cf Gp cp false (p, false, ws, op, nd, fo) = (true, (p, true, ws, op, nd, fo)) := by
        unfold itC
        dsimp only
        rw [if_neg h40, hsk, if_pos ⟨hs1.2.1, Or.inr rfl⟩, if_neg c60]
      have e1 : ¬ er (mlT false kd (nxQ f l q)) = 0 := by
        unfold mlT coP
        rw [if_neg (show ¬ (nxQ f l q).2.1 + 1 ≤ 60 from (show ¬ q.2.1 + 1 ≤ 60 by omega)), if_neg (show ¬ false = true by decide), er_mu0 (by rw [er_mu1]; exact e0)]
        decide
      unfold mlQ
      rw [if_neg e1]
      exact Or.inl ⟨e1, by rw [hcr, eit, cr_er rfl]⟩
/-- a fact -/
theorem it_fc {t : hS} {q : hQ} {st : List Nat} {G0 : Nat} (hB : BYT f l) (h5c : cf ≤ 5) (hF : ∀ k, k < cf → NRc G (80 + 7 * k) (Gf k)) (hQ9 : CQ f l bs pl t q [] st) (hg : l + 1 ≤ G0 + t.1) (h40 : ¬ kdE f l t.1 = 40) (hr : ¬ (¬ kdE f l t.1 - 256 < 1 ∧ ¬ 5 < kdE f l t.1 - 256)) : FIN f l bs pl Gf cf Gp cp 1 G0 true t t.2.2.1 5 (fun _ => True) st (fcQ G f l bs cf (nxQ f l q)) := by
  obtain ⟨p, e9, ws, op, nd, fo⟩ := t
  obtain ⟨h1, h2, h3, h4, h5, h6, h7, h8, h9⟩ := hQ9
  obtain rfl : e9 = false := h1
  have h3 : nd = q.2.1 := h3
  have h9 : p ≤ l := h9
  have h6 : q.1 bs = Int32.ofNat fo.length := h6
  have h7 : ndR q.1 bs (fo ++ []) [] 0 st := h7
  rw [List.append_nil] at h7
  have h8 : ∀ x, x ∈ fo ++ [] → OKX pl x := h8
  rw [List.append_nil] at h8
  have h40 : ¬ kdE f l p = 40 := h40
  have hr : ¬ (¬ kdE f l p - 256 < 1 ∧ ¬ 5 < kdE f l p - 256) := hr
  obtain ⟨G1, rfl⟩ : ∃ G1, G0 = G1 + 1 := ⟨G0 - 1, by have hg : l + 1 ≤ G0 + p := hg; omega⟩
  have hg : l + 1 ≤ G1 + 1 + p := hg
  have hcr := cr_it (f := f) (l := l) (Gf := Gf) (cf := cf) (Gp := Gp) (cp := cp) (pl := pl) (t := (p, false, ws, op, nd, fo)) (g := G1) rfl
  have hI := inv_it (f := f) (l := l) (Gf := Gf) (cf := cf) (Gp := Gp) (cp := cp) (pl := pl) h5
  obtain ⟨k1, k2⟩ := re_kn (bs := 80) hB (re_nx h2) hF
  by_cases kn : kwN f l p Gf cf = -1
  · have eit : itC f l Gf cf Gp cp pl (p, false, ws, op, nd, fo) = (false, (p, true, ws, op, nd, fo)) := by
      unfold itC
      dsimp only
      rw [if_neg h40, if_neg (fun z => hr z.1), if_pos kn]
    have e2 : ¬ er (knP G f l 80 cf (nxP f l q.2.2.2)).2 = 0 := fun z => by
      have z2 := k1.1.mp z
      rw [decide_eq_true kn] at z2
      cases z2
    exact Or.inl ⟨co_bad e2, by rw [hcr, eit, cr_er rfl]⟩
  · obtain ⟨w1, w2⟩ := kw_lt h5c kn
    have hgt := nx_gt (f := f) (wd_nx (kd_w hB w1)).1
    rw [if_neg kn, decide_eq_false kn] at k1
    by_cases c60 : nd < 60
    · have eit : itC f l Gf cf Gp cp pl (p, false, ws, op, nd, fo) = (false, (nxE f l p, false, ws, op, nd + 1, fo ++ [(0, kwN f l p Gf cf)])) := by
        unfold itC
        dsimp only
        rw [if_neg h40, if_neg (fun z => hr z.1), if_neg kn, if_pos c60]
      rw [eit] at hcr hI
      have hlen : fo.length < 60 := by
        obtain ⟨i1, i2, i3, i4⟩ := h5
        have i3 : npF ws + fo.length ≤ nd := i3
        omega
      have eco : coP q.2.1 (knP G f l 80 cf (nxP f l q.2.2.2)).2 = muP 1 3 (knP G f l 80 cf (nxP f l q.2.2.2)).2 := by
        unfold coP
        rw [if_pos (by omega)]
      have e1 : er (muP 1 3 (knP G f l 80 cf (nxP f l q.2.2.2)).2) = 0 := by
        rw [er_mu1]
        exact k1.1.mpr rfl
      obtain ⟨F', m1, m2, m3, m4, m5, m6⟩ := mk_q (bs := bs) (m := fo.length) (q := (q.1, q.2.1 + 1, q.2.2.1, muP 1 3 (knP G f l 80 cf (nxP f l q.2.2.2)).2)) (kd := 0) (a := (knP G f l 80 cf (nxP f l q.2.2.2)).1) (c := 0) e1 h6 hlen
      unfold fcQ
      rw [show (nxQ f l q).2.1 = q.2.1 from rfl, show (nxQ f l q).2.2.2 = nxP f l q.2.2.2 from rfl, show (nxQ f l q).1 = q.1 from rfl, show (nxQ f l q).2.2.1 = q.2.2.1 from rfl, eco, m1]
      refine Or.inr ⟨G1, _, [], fo.length, hcr, by show l + 1 ≤ G1 + nxE f l p; omega, hgt.1, ?_, fun x hx => absurd hx (List.not_mem_nil), ?_, rfl, trivial⟩
      · show ws = ws ++ [].reverse
        rw [List.reverse_nil, List.append_nil]
      · refine ⟨rfl, k1.cg rfl er_mu1, by show nd + 1 = q.2.1 + 1; omega, h4, hI, ?_, ?_, ?_, hgt.2⟩
        · show F' bs = Int32.ofNat ((fo ++ [(0, kwN f l p Gf cf)]).length + 0)
          rw [List.length_append, List.length_singleton, Nat.add_zero]
          exact m2
        · show ndR F' bs ((fo ++ [(0, kwN f l p Gf cf)]) ++ []) [] 0 (fo.length :: st)
          rw [List.append_nil]
          exact ndR_one h7 m6 ⟨m3, Or.inl ⟨rfl, m4.trans (k2 kn), rfl⟩⟩
        · show ∀ x, x ∈ (fo ++ [(0, kwN f l p Gf cf)]) ++ [] → OKX pl x
          rw [List.append_nil]
          intro x hx
          rcases List.mem_append.mp hx with z | z
          · exact h8 x z
          · rw [List.mem_singleton.mp z]
            exact ⟨fun _ => w2, fun _ => Or.inl rfl⟩
    · have eit : itC f l Gf cf Gp cp pl (p, false, ws, op, nd, fo) = (false, (p, true, ws, op, nd, fo)) := by
        unfold itC
        dsimp only
        rw [if_neg h40, if_neg (fun z => hr z.1), if_neg kn, if_neg c60]
      have e1 : ¬ er (coP q.2.1 (knP G f l 80 cf (nxP f l q.2.2.2)).2) = 0 := by
        unfold coP
        rw [if_neg (by omega), er_mu0 (k1.1.mpr rfl)]
        decide
      exact Or.inl ⟨e1, by rw [hcr, eit, cr_er rfl]⟩
/-- an item -/
theorem it_all {R : hR} (hbad : ∀ md k (q : hQ), ¬ er q.2.2.2 = 0 → ¬ er (R md k q).2.2.2.2 = 0) {t : hS} {q : hQ} {st : List Nat} {G0 : Nat} (hB : BYT f l) (h5c : cf ≤ 5) (h5p : cp ≤ 5) (hF : ∀ k, k < cf → NRc G (80 + 7 * k) (Gf k)) (hP : ∀ k, k < cp → NRc G (115 + 7 * k) (Gp k)) (hQ9 : CQ f l bs pl t q [] st) (hg : l + 1 ≤ G0 + t.1) (IH0 : RUN f l bs pl Gf cf Gp cp (t.1 + 1) R 0 5 (fun _ => True) (fun _ => True)) (IH2 : RUN f l bs pl Gf cf Gp cp (t.1 + 1) R 2 7 (fun p => ¬ kdE f l p = 262 ∧ ¬ kdE f l p = 263) (TOPB 7)) : FIN f l bs pl Gf cf Gp cp 1 G0 true t t.2.2.1 5 (fun _ => True) st (itQ G f l bs pl cp cf R q) := by
  have h2 := hQ9.2.1
  have h1 := hQ9.1
  have e0 := h2.1.mpr rfl
  obtain ⟨hp, hT⟩ := h2.2 rfl
  unfold itQ
  rw [if_pos e0, ← hp]
  by_cases k40 : kdE f l t.1 = 40
  · rw [if_pos ((sg_k (by decide) (by decide) (by decide)).mp k40)]
    exact it_in hQ9 hg k40 IH2
  · rw [if_neg (fun z => k40 ((sg_k (by decide) (by decide) (by decide)).mpr z)), se_sp lw_1, ← hp]
    by_cases k257 : kdE f l t.1 = 257
    · rw [if_pos ((kd_257 hB).mp k257)]
      exact it_nt hB hQ9 hg k257 IH0
    · rw [if_neg (fun z => k257 ((kd_257 hB).mpr z))]
      have mk := mk_k (f := f) (l := l) (a := q.2.2.2.1) hB
      rw [← hp] at mk
      rcases mk with ⟨m, k⟩ | ⟨m, k⟩ | ⟨m, k⟩ | ⟨m, k⟩ | ⟨m, k1, k2, k3, k4⟩
      · rw [if_neg (by rw [m]; decide), m]
        exact it_ml hbad (s := 2) hB h5p hP hQ9 hg k (by decide) ⟨258, by decide, by decide, rfl⟩ (by decide) (by decide) (by decide) IH0
      · rw [if_neg (by rw [m]; decide), m]
        exact it_ml hbad (s := 3) hB h5p hP hQ9 hg k (by decide) ⟨259, by decide, by decide, rfl⟩ (by decide) (by decide) (by decide) IH0
      · rw [if_neg (by rw [m]; decide), m]
        exact it_ml hbad (s := 4) hB h5p hP hQ9 hg k (by decide) ⟨260, by decide, by decide, rfl⟩ (by decide) (by decide) (by decide) IH0
      · rw [if_neg (by rw [m]; decide), m]
        exact it_ml hbad (s := 5) hB h5p hP hQ9 hg k (by decide) ⟨261, by decide, by decide, rfl⟩ (by decide) (by decide) (by decide) IH0
      · rw [if_pos m]
        exact it_fc hB h5c hF hQ9 hg k40 (kd_rng k257 k1 k2 k3 k4)
end NF
end N_zm
