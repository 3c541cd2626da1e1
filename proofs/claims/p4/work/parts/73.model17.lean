section M17
/-! ===== the reference: what was read is a formula ===== -/
def Nd (F : Nat → Int32) (b np nf k : Nat) : Prop := ∃ kn a c : Nat, F (b + 1 + 4 * k) = Int32.ofNat kn ∧ F (b + 1 + 4 * k + 1) = Int32.ofNat a ∧ F (b + 1 + 4 * k + 2) = Int32.ofNat c ∧ kn ≤ 7 ∧ (kn = 0 → a < nf) ∧ (1 ≤ kn → a < k) ∧ (kn = 2 ∨ kn = 3 → c < k) ∧ (kn = 4 ∨ kn = 5 → c < np) ∧ (kn ≠ 2 → kn ≠ 3 → kn ≠ 4 → kn ≠ 5 → c = 0)
/-- node k and all that it is made of are the nodes from lo to k -/
def TR (F : Nat → Int32) (b : Nat) : Nat → Nat → Nat → Prop
  | 0, _, _ => False
  | g + 1, lo, k => (F (b + 1 + 4 * k) = Int32.ofNat 0 ∧ lo = k) ∨ (∃ kn : Nat, (kn = 1 ∨ (4 ≤ kn ∧ kn ≤ 7)) ∧ F (b + 1 + 4 * k) = Int32.ofNat kn ∧ lo + 1 ≤ k ∧ F (b + 1 + 4 * k + 1) = Int32.ofNat (k - 1) ∧ TR F b g lo (k - 1)) ∨ (∃ kn md : Nat, (kn = 2 ∨ kn = 3) ∧ F (b + 1 + 4 * k) = Int32.ofNat kn ∧ lo ≤ md ∧ md + 2 ≤ k ∧ F (b + 1 + 4 * k + 1) = Int32.ofNat md ∧ F (b + 1 + 4 * k + 2) = Int32.ofNat (k - 1) ∧ TR F b g lo md ∧ TR F b g (md + 1) (k - 1))
theorem TR.le {F : Nat → Int32} {b : Nat} : ∀ {g lo k : Nat}, TR F b g lo k → lo ≤ k
  | 0, _, _, h => h.elim
  | g + 1, lo, k, h => by
    rcases h with ⟨_, h⟩ | ⟨_, _, _, h, _⟩ | ⟨_, _, _, _, h1, h2, _⟩ <;> omega
theorem TR.up {F : Nat → Int32} {b : Nat} : ∀ {g g2 lo k : Nat}, TR F b g lo k → g ≤ g2 → TR F b g2 lo k
  | 0, _, _, _, h, _ => h.elim
  | g + 1, 0, lo, k, _, e => absurd e (by omega)
  | g + 1, g2 + 1, lo, k, h, e => by
    rcases h with h | ⟨kn, h1, h2, h3, h4, h5⟩ | ⟨kn, md, h1, h2, h3, h4, h5, h6, h7, h8⟩
    · exact Or.inl h
    · exact Or.inr (Or.inl ⟨kn, h1, h2, h3, h4, h5.up (by omega)⟩)
    · exact Or.inr (Or.inr ⟨kn, md, h1, h2, h3, h4, h5, h6, h7.up (by omega), h8.up (by omega)⟩)
theorem TR.cg {F F' : Nat → Int32} {b b' : Nat} : ∀ {g lo k : Nat}, TR F b g lo k → (∀ j, 4 * lo < j → j ≤ 4 * k + 4 → F' (b' + j) = F (b + j)) → TR F' b' g lo k
  | 0, _, _, h, _ => h.elim
  | g + 1, lo, k, h, e => by
    rcases h with ⟨h1, h2⟩ | ⟨kn, h1, h2, h3, h4, h5⟩ | ⟨kn, md, h1, h2, h3, h4, h5, h6, h7, h8⟩
    · refine Or.inl ⟨?_, h2⟩
      have := e (1 + 4 * k) (by omega) (by omega)
      rw [← Nat.add_assoc, ← Nat.add_assoc] at this
      exact this.trans h1
    · have e1 := e (1 + 4 * k) (by omega) (by omega)
      have e2 := e (1 + 4 * k + 1) (by omega) (by omega)
      simp only [← Nat.add_assoc] at e1 e2
      exact Or.inr (Or.inl ⟨kn, h1, e1.trans h2, h3, e2.trans h4, h5.cg fun j j1 j2 => e j (by omega) (by omega)⟩)
    · have e1 := e (1 + 4 * k) (by omega) (by omega)
      have e2 := e (1 + 4 * k + 1) (by omega) (by omega)
      have e3 := e (1 + 4 * k + 2) (by omega) (by omega)
      simp only [← Nat.add_assoc] at e1 e2 e3
      exact Or.inr (Or.inr ⟨kn, md, h1, e1.trans h2, h3, h4, e2.trans h5, e3.trans h6, h7.cg (fun j j1 j2 => e j (by omega) (by omega)), h8.cg (fun j j1 j2 => e j (by omega) (by omega))⟩)
def Tr (F : Nat → Int32) (b lo k : Nat) : Prop := ∃ g, TR F b g lo k
/-- what stands ahead of node m, and outside the formula, is as it was -/
def KP (bs m : Nat) (F F' : Nat → Int32) : Prop := ∀ j, j ≠ bs → (j < bs + 1 + 4 * m ∨ bs + 241 ≤ j) → F' j = F j
theorem KP.tr {bs m m2 : Nat} {F F1 F2 : Nat → Int32} (h1 : KP bs m F F1) (h2 : KP bs m2 F1 F2) (e : m ≤ m2) : KP bs m F F2 := fun j j1 j2 => (h2 j j1 (by omega)).trans (h1 j j1 j2)
theorem KP.t {bs m : Nat} {F F' : Nat → Int32} (h : KP bs m F F') {lo k : Nat} (t : Tr F bs lo k) (e : k < m) : Tr F' bs lo k := by
  obtain ⟨g, t⟩ := t
  exact ⟨g, t.cg fun j j1 j2 => h _ (by omega) (Or.inl (by omega))⟩
theorem Tr.u {F : Nat → Int32} {b lo k kn : Nat} (h1 : kn = 1 ∨ (4 ≤ kn ∧ kn ≤ 7)) (h2 : F (b + 1 + 4 * k) = Int32.ofNat kn) (h3 : lo + 1 ≤ k) (h4 : F (b + 1 + 4 * k + 1) = Int32.ofNat (k - 1)) (h5 : Tr F b lo (k - 1)) : Tr F b lo k := by
  obtain ⟨g, h5⟩ := h5
  exact ⟨g + 1, Or.inr (Or.inl ⟨kn, h1, h2, h3, h4, h5⟩)⟩
theorem Tr.b {F : Nat → Int32} {b lo k kn md : Nat} (h1 : kn = 2 ∨ kn = 3) (h2 : F (b + 1 + 4 * k) = Int32.ofNat kn) (h4 : md + 2 ≤ k) (h5 : F (b + 1 + 4 * k + 1) = Int32.ofNat md) (h6 : F (b + 1 + 4 * k + 2) = Int32.ofNat (k - 1)) (h7 : Tr F b lo md) (h8 : Tr F b (md + 1) (k - 1)) : Tr F b lo k := by
  obtain ⟨g, h7⟩ := h7
  obtain ⟨g2, h8⟩ := h8
  exact ⟨g + g2 + 1, Or.inr (Or.inr ⟨kn, md, h1, h2, h7.le, h4, h5, h6, h7.up (by omega), h8.up (by omega)⟩)⟩
def NI (bs np nf : Nat) (q : hQ) (m : Nat) : Prop := q.1 bs = Int32.ofNat m ∧ m ≤ q.2.1 ∧ q.2.1 ≤ 60 ∧ ∀ k, k < m → Nd q.1 bs np nf k
def NR (bs np nf : Nat) (q : hQ) (r : Int32 × hQ) : Prop := er r.2.2.2.2 = 0 → er q.2.2.2 = 0 ∧ ∀ m, NI bs np nf q m → ∃ m' : Nat, NI bs np nf r.2 m' ∧ m + 1 ≤ m' ∧ r.1 = Int32.ofNat (m' - 1) ∧ m' + q.2.1 = m + r.2.2.1 ∧ KP bs m q.1 r.2.1 ∧ Tr r.2.1 bs m (m' - 1)
def NL (bs np nf : Nat) (k : Int32) (q : hQ) (r : Int32 × hQ) : Prop := er r.2.2.2.2 = 0 → er q.2.2.2 = 0 ∧ ∀ m, NI bs np nf q m → 1 ≤ m → k = Int32.ofNat (m - 1) → ∃ m' : Nat, NI bs np nf r.2 m' ∧ m ≤ m' ∧ r.1 = Int32.ofNat (m' - 1) ∧ m' + q.2.1 = m + r.2.2.1 ∧ KP bs m q.1 r.2.1 ∧ ∀ lo, Tr q.1 bs lo (m - 1) → Tr r.2.1 bs lo (m' - 1)
theorem mk_ni {bs np nf : Nat} {q : hQ} {m kn a c : Nat} (h1 : q.1 bs = Int32.ofNat m) (h2 : m + 1 ≤ q.2.1) (h3 : q.2.1 ≤ 60) (h4 : ∀ k, k < m → Nd q.1 bs np nf k) (h0 : er q.2.2.2 = 0) (k1 : kn ≤ 7) (k2 : kn = 0 → a < nf) (k3 : 1 ≤ kn → a < m) (k4 : kn = 2 ∨ kn = 3 → c < m) (k5 : kn = 4 ∨ kn = 5 → c < np) (k6 : kn ≠ 2 → kn ≠ 3 → kn ≠ 4 → kn ≠ 5 → c = 0) : NI bs np nf (mkQ bs q (Int32.ofNat kn) (Int32.ofNat a) (Int32.ofNat c)).2 (m + 1) ∧ (mkQ bs q (Int32.ofNat kn) (Int32.ofNat a) (Int32.ofNat c)).1 = Int32.ofNat m ∧ KP bs m q.1 (mkQ bs q (Int32.ofNat kn) (Int32.ofNat a) (Int32.ofNat c)).2.1 ∧ (mkQ bs q (Int32.ofNat kn) (Int32.ofNat a) (Int32.ofNat c)).2.1 (bs + 1 + 4 * m) = Int32.ofNat kn ∧ (mkQ bs q (Int32.ofNat kn) (Int32.ofNat a) (Int32.ofNat c)).2.1 (bs + 1 + 4 * m + 1) = Int32.ofNat a ∧ (mkQ bs q (Int32.ofNat kn) (Int32.ofNat a) (Int32.ofNat c)).2.1 (bs + 1 + 4 * m + 2) = Int32.ofNat c := by
  have hu : mm_un (q.1 bs) = m := by rw [h1]; exact i_un (by omega)
  have hF : mdF q.1 bs (er q.2.2.2) (Int32.ofNat kn) (Int32.ofNat a) (Int32.ofNat c) = (q.1 bs, fun j => if j = bs then q.1 bs + 1 else if j = bs + 1 + 4 * m + 2 then Int32.ofNat c else if j = bs + 1 + 4 * m + 1 then Int32.ofNat a else if j = bs + 1 + 4 * m then Int32.ofNat kn else q.1 j) := by
    unfold mdF
    rw [hu, if_pos ⟨h0, by omega⟩]
  unfold mkQ
  rw [hF]
  refine ⟨⟨?_, h2, h3, ?_⟩, h1, fun j j1 j2 => ?_, ?_, ?_, ?_⟩
  rotate_left 2
  · show (if j = bs then _ else _) = _
    rw [if_neg j1, if_neg (by omega), if_neg (by omega), if_neg (by omega)]
  · show (if bs + 1 + 4 * m = bs then _ else _) = _
    rw [if_neg (by omega), if_neg (by omega), if_neg (by omega), if_pos rfl]
  · show (if bs + 1 + 4 * m + 1 = bs then _ else _) = _
    rw [if_neg (by omega), if_neg (by omega), if_pos rfl]
  · show (if bs + 1 + 4 * m + 2 = bs then _ else _) = _
    rw [if_neg (by omega), if_pos rfl]
  · show (if bs = bs then q.1 bs + 1 else _) = _
    rw [if_pos rfl, h1, i_succ]
  · intro k hk
    by_cases e : k = m
    · subst e
      refine ⟨kn, a, c, ?_, ?_, ?_, k1, k2, k3, k4, k5, k6⟩
      · show (if bs + 1 + 4 * k = bs then _ else _) = _
        rw [if_neg (by omega), if_neg (by omega), if_neg (by omega), if_pos rfl]
      · show (if bs + 1 + 4 * k + 1 = bs then _ else _) = _
        rw [if_neg (by omega), if_neg (by omega), if_pos rfl]
      · show (if bs + 1 + 4 * k + 2 = bs then _ else _) = _
        rw [if_neg (by omega), if_pos rfl]
    · obtain ⟨kn', a', c', g1, g2, g3, g4⟩ := h4 k (by omega)
      refine ⟨kn', a', c', ?_, ?_, ?_, g4⟩
      · show (if bs + 1 + 4 * k = bs then _ else _) = _
        rw [if_neg (by omega), if_neg (by omega), if_neg (by omega), if_neg (by omega)]
        exact g1
      · show (if bs + 1 + 4 * k + 1 = bs then _ else _) = _
        rw [if_neg (by omega), if_neg (by omega), if_neg (by omega), if_neg (by omega)]
        exact g2
      · show (if bs + 1 + 4 * k + 2 = bs then _ else _) = _
        rw [if_neg (by omega), if_neg (by omega), if_neg (by omega), if_neg (by omega)]
        exact g3
theorem fn_val {g : Nat → Bool} : ∀ m k, fnF g m k = -1 ∨ ∃ c : Nat, fnF g m k = Int32.ofNat c ∧ c < k + m
  | 0, k => Or.inl rfl
  | m + 1, k => by
    rw [fnF.eq_2]
    split
    · exact Or.inr ⟨k, rfl, by omega⟩
    · rcases fn_val (g := g) m (k + 1) with h | ⟨c, h1, h2⟩
      · exact Or.inl h
      · exact Or.inr ⟨c, h1, by omega⟩
theorem kn_val {G f : Nat → Int32} {l base many : Nat} {T : hP} (h : er (knP G f l base many T).2 = 0) : ∃ c : Nat, c < many ∧ (knP G f l base many T).1 = Int32.ofNat c := by
  have h1 : er (muP (if (rnP G f l base many T).1 = -1 then 0 else 1) 2 (rnP G f l base many T).2) = 0 := h
  have h2 : (knP G f l base many T).1 = (rnP G f l base many T).1 := if_pos h1
  have h3 : er (rnP G f l base many T).2 = 0 := mu_er (by decide) h1
  have h4 : ¬ (rnP G f l base many T).1 = -1 := by
    intro z
    rw [if_pos z, er_mu0 h3] at h1
    exact absurd h1 (by decide)
  rw [h2]
  by_cases h0 : er T = 0
  · by_cases hn : nmOK f l T.1 = true
    · have hR : (rnP G f l base many T).1 = fnF (fun k => nmB G f l (sk f l T.1) (wn f l T.1) (base + 7 * k)) many 0 := by
        unfold rnP
        rw [if_pos h0, if_pos hn]
      rw [hR] at h4 ⊢
      rcases fn_val (g := fun k => nmB G f l (sk f l T.1) (wn f l T.1) (base + 7 * k)) many 0 with z | ⟨c, z1, z2⟩
      · exact absurd z h4
      · exact ⟨c, by omega, z1⟩
    · exact absurd (show (rnP G f l base many T).1 = -1 by unfold rnP; rw [if_pos h0, if_neg hn]) h4
  · exact absurd (show (rnP G f l base many T).1 = -1 by unfold rnP; rw [if_neg h0]) h4
theorem mk_val {f : Nat → Int32} {l a : Nat} (h : ¬ mkF f l a = -1) : ∃ kn : Nat, mkF f l a = Int32.ofNat kn ∧ 4 ≤ kn ∧ kn ≤ 7 := by
  unfold mkF at h ⊢
  split
  · exact ⟨4, rfl, by omega, by omega⟩
  · split
    · exact ⟨5, rfl, by omega, by omega⟩
    · split
      · exact ⟨6, rfl, by omega, by omega⟩
      · split
        · exact ⟨7, rfl, by omega, by omega⟩
        · rename_i a1 a2 a3 a4
          rw [if_neg a1, if_neg a2, if_neg a3, if_neg a4] at h
          exact absurd rfl h
theorem in_nd {f : Nat → Int32} {l bs np nf : Nat} {R : hR} {q : hQ} (H : er (muP (if q.2.2.1 < 8 then 1 else 0) 1 q.2.2.2) = 0 → NR bs np nf (q.1, q.2.1, q.2.2.1 + 1, upP (muP (if q.2.2.1 < 8 then 1 else 0) 1 q.2.2.2)) (R 2 0 (q.1, q.2.1, q.2.2.1 + 1, upP (muP (if q.2.2.1 < 8 then 1 else 0) 1 q.2.2.2)))) : NR bs np nf q (inQ f l R q) := by
  unfold inQ
  by_cases hz : er (muP (if q.2.2.1 < 8 then 1 else 0) 1 q.2.2.2) = 0
  · rw [if_pos hz]
    intro h
    have h1 := (sg_er (f := f) (l := l) (c := 41) (by decide) h).1
    obtain ⟨_, h3⟩ := H hz h1
    exact ⟨mu_er (by decide) hz, h3⟩
  · rw [if_neg hz]
    exact fun h => absurd h hz
theorem nt_nd {bs np nf : Nat} {R : hR} {q : hQ} (H : er (coP q.2.1 q.2.2.2) = 0 → NR bs np nf (q.1, q.2.1 + 1, q.2.2.1, goP (coP q.2.1 q.2.2.2)) (R 0 0 (q.1, q.2.1 + 1, q.2.2.1, goP (coP q.2.1 q.2.2.2)))) : NR bs np nf q (ntQ bs R q) := by
  unfold ntQ
  by_cases hz : er (coP q.2.1 q.2.2.2) = 0
  · rw [if_pos hz]
    intro h
    have H := H hz
    obtain ⟨r1, hr1⟩ : ∃ r1, R 0 0 (q.1, q.2.1 + 1, q.2.2.1, goP (coP q.2.1 q.2.2.2)) = r1 := ⟨_, rfl⟩
    rw [hr1] at H h ⊢
    obtain ⟨_, h3⟩ := H h
    obtain ⟨z1, z2⟩ := co_er hz
    refine ⟨z1, fun m hm => ?_⟩
    obtain ⟨m1, ⟨a1, a2, a3, a4⟩, b1, b2, b3, b4, b5⟩ := h3 m ⟨hm.1, Nat.le_succ_of_le hm.2.1, z2, hm.2.2.2⟩
    have hms := hm.2.1
    have b3 : m1 + (q.2.1 + 1) = m + r1.2.2.1 := b3
    obtain ⟨c1, c2, c3, c4, c5, c6⟩ := mk_ni (kn := 1) (a := m1 - 1) (c := 0) (np := np) (nf := nf) (q := r1.2) a1 (by omega) a3 a4 h (by omega) (fun z => by omega) (fun _ => by omega) (fun z => by omega) (fun z => by omega) (fun _ _ _ _ => rfl)
    rw [b2]
    exact ⟨m1 + 1, c1, by omega, c2, show m1 + 1 + q.2.1 = m + r1.2.2.1 by omega, b4.tr c3 (by omega), Tr.u (k := m1) (Or.inl rfl) c4 b1 c5 (c3.t b5 (by omega))⟩
  · rw [if_neg hz]
    exact fun h => absurd h hz
theorem fc_nd {G f : Nat → Int32} {l bs np nf : Nat} {q : hQ} : NR bs np nf q (fcQ G f l bs nf q) := by
  unfold fcQ
  intro h
  have hz : er (coP q.2.1 (knP G f l 80 nf q.2.2.2).2) = 0 := h
  obtain ⟨z1, z2⟩ := co_er hz
  obtain ⟨a, ha, he⟩ := kn_val z1
  have h0 : er q.2.2.2 = 0 := by
    have h3 : er (rnP G f l 80 nf q.2.2.2).2 = 0 := mu_er (by decide) z1
    refine Decidable.byContradiction fun z => ?_
    unfold rnP at h3
    rw [if_neg z] at h3
    exact z h3
  refine ⟨h0, fun m hm => ?_⟩
  have hms := hm.2.1
  obtain ⟨c1, c2, c3, c4, c5, c6⟩ := mk_ni (kn := 0) (a := a) (c := 0) (np := np) (nf := nf) (q := (q.1, q.2.1 + 1, q.2.2.1, coP q.2.1 (knP G f l 80 nf q.2.2.2).2)) hm.1 (show m + 1 ≤ q.2.1 + 1 by omega) z2 hm.2.2.2 hz (by omega) (fun _ => ha) (fun z => by omega) (fun z => by omega) (fun z => by omega) (fun _ _ _ _ => rfl)
  rw [he]
  exact ⟨m + 1, c1, Nat.le_refl _, c2, show m + 1 + q.2.1 = m + (q.2.1 + 1) by omega, c3, 1, Or.inl ⟨c4, rfl⟩⟩
theorem ml_nd {G f : Nat → Int32} {l bs np nf : Nat} {pl : Bool} {R : hR} {q : hQ} {kn : Nat} (hk4 : 4 ≤ kn) (hk7 : kn ≤ 7) (H : er (mlT pl (Int32.ofNat kn) q) = 0 → NR bs np nf (q.1, q.2.1 + 1, q.2.2.1, (mlK G f l pl np (Int32.ofNat kn) q).2) (R 0 0 (q.1, q.2.1 + 1, q.2.2.1, (mlK G f l pl np (Int32.ofNat kn) q).2))) : NR bs np nf q (mlQ G f l bs pl np R (Int32.ofNat kn) q) := by
  unfold mlQ
  by_cases hz : er (mlT pl (Int32.ofNat kn) q) = 0
  · rw [if_pos hz]
    intro h
    have H := H hz
    obtain ⟨r1, hr1⟩ : ∃ r1, R 0 0 (q.1, q.2.1 + 1, q.2.2.1, (mlK G f l pl np (Int32.ofNat kn) q).2) = r1 := ⟨_, rfl⟩
    rw [hr1] at H h ⊢
    obtain ⟨hK, h3⟩ := H h
    obtain ⟨z1, z2⟩ := co_er hz
    have h0 : er q.2.2.2 = 0 := mu_er (by decide) z1
    refine ⟨h0, fun m hm => ?_⟩
    obtain ⟨m1, ⟨a1, a2, a3, a4⟩, b1, b2, b3, b4, b5⟩ := h3 m ⟨hm.1, Nat.le_succ_of_le hm.2.1, z2, hm.2.2.2⟩
    have hms := hm.2.1
    have b3 : m1 + (q.2.1 + 1) = m + r1.2.2.1 := b3
    have hc : ∃ c : Nat, (mlK G f l pl np (Int32.ofNat kn) q).1 = Int32.ofNat c ∧ (kn = 4 ∨ kn = 5 → c < np) ∧ (kn ≠ 4 → kn ≠ 5 → c = 0) := by
      have hK : er (mlK G f l pl np (Int32.ofNat kn) q).2 = 0 := hK
      unfold mlK at hK ⊢
      by_cases e : Int32.ofNat kn = 4 ∨ Int32.ofNat kn = 5
      · rw [if_pos e] at hK ⊢
        obtain ⟨c, g1, g2⟩ := kn_val hK
        refine ⟨c, g2, fun _ => g1, fun n4 n5 => ?_⟩
        rcases e with e | e
        · exact absurd (i_inj (b := 4) (by omega) (by omega) e) n4
        · exact absurd (i_inj (b := 5) (by omega) (by omega) e) n5
      · rw [if_neg e]
        refine ⟨0, rfl, fun z => ?_, fun _ _ => rfl⟩
        rcases z with z | z
        · exact absurd (Or.inl (by rw [z]; rfl)) e
        · exact absurd (Or.inr (by rw [z]; rfl)) e
    obtain ⟨c, g1, g2, g3⟩ := hc
    obtain ⟨c1, c2, c3, c4, c5, c6⟩ := mk_ni (kn := kn) (a := m1 - 1) (c := c) (np := np) (nf := nf) (q := r1.2) a1 (by omega) a3 a4 h hk7 (fun z => by omega) (fun _ => by omega) (fun z => by omega) g2 (fun _ _ => g3)
    rw [b2, g1]
    exact ⟨m1 + 1, c1, by omega, c2, show m1 + 1 + q.2.1 = m + r1.2.2.1 by omega, b4.tr c3 (by omega), Tr.u (k := m1) (Or.inr ⟨hk4, hk7⟩) c4 b1 c5 (c3.t b5 (by omega))⟩
  · rw [if_neg hz]
    exact fun h => absurd h hz
theorem jn_nd {f : Nat → Int32} {l bs np nf : Nat} {R : hR} {q : hQ} {n N md lp kd : Nat} {k : Int32} (hkd : kd = 2 ∨ kd = 3) (H : seB f l q.2.2.2 n N = true → er (coP q.2.1 (nxP f l q.2.2.2)) = 0 → NR bs np nf (q.1, q.2.1 + 1, q.2.2.1, goP (coP q.2.1 (nxP f l q.2.2.2))) (R md 0 (q.1, q.2.1 + 1, q.2.2.1, goP (coP q.2.1 (nxP f l q.2.2.2)))) ∧ ∀ x : Int32 × hQ, x = mkQ bs (R md 0 (q.1, q.2.1 + 1, q.2.2.1, goP (coP q.2.1 (nxP f l q.2.2.2)))).2 (Int32.ofNat kd) k (R md 0 (q.1, q.2.1 + 1, q.2.2.1, goP (coP q.2.1 (nxP f l q.2.2.2)))).1 → NL bs np nf x.1 x.2 (R lp x.1 x.2)) : NL bs np nf k q (jnQ f l bs R n N md lp (Int32.ofNat kd) k q) := by
  unfold jnQ
  by_cases hs : seB f l q.2.2.2 n N = true
  · rw [if_pos hs]
    by_cases hz : er (coP q.2.1 (nxP f l q.2.2.2)) = 0
    · rw [if_pos hz]
      obtain ⟨H1, H2⟩ := H hs hz
      obtain ⟨r1, hr1⟩ : ∃ r1, R md 0 (q.1, q.2.1 + 1, q.2.2.1, goP (coP q.2.1 (nxP f l q.2.2.2))) = r1 := ⟨_, rfl⟩
      rw [hr1] at H1 H2 ⊢
      have H2 := H2 _ rfl
      intro h
      obtain ⟨e1, h4⟩ := H2 h
      have e1 : er r1.2.2.2.2 = 0 := e1
      obtain ⟨_, h3⟩ := H1 e1
      obtain ⟨z1, z2⟩ := co_er hz
      refine ⟨z1, fun m hm hm1 hk => ?_⟩
      obtain ⟨m1, ⟨a1, a2, a3, a4⟩, b1, b2, b3, b4, b5⟩ := h3 m ⟨hm.1, Nat.le_succ_of_le hm.2.1, z2, hm.2.2.2⟩
      have hms := hm.2.1
      have b3 : m1 + (q.2.1 + 1) = m + r1.2.2.1 := b3
      obtain ⟨c1, c2, c3, c4, c5, c6⟩ := mk_ni (kn := kd) (a := m - 1) (c := m1 - 1) (np := np) (nf := nf) (q := r1.2) a1 (by omega) a3 a4 e1 (by omega) (fun z => by omega) (fun _ => by omega) (fun z => by omega) (fun z => by omega) (fun y1 y2 => by omega)
      rw [b2, hk] at h4 ⊢
      obtain ⟨m2, d1, d2, d3, d4, d5, d6⟩ := h4 (m1 + 1) c1 (by omega) c2
      have d4 : m2 + r1.2.2.1 = m1 + 1 + _ := d4
      refine ⟨m2, d1, by omega, d3, by omega, (b4.tr c3 (by omega)).tr d5 (by omega), fun lo t => d6 lo ?_⟩
      exact Tr.b (k := m1) (md := m - 1) hkd c4 (by omega) c5 c6 (c3.t (b4.t t (by omega)) (by omega)) (by rw [show m - 1 + 1 = m by omega]; exact c3.t b5 (by omega))
    · rw [if_neg hz]
      exact fun h => absurd h hz
  · rw [if_neg hs]
    exact fun h => ⟨h, fun m hm hm1 hk => ⟨m, hm, Nat.le_refl _, hk, rfl, fun _ _ _ => rfl, fun _ t => t⟩⟩
end M17
