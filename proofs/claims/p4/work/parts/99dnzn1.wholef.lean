section N_zn
/-! ===== a formula on both sides: whole ===== -/
section NF
variable {G f : Nat → Int32} {l bs : Nat} {pl : Bool} {Gf Gp : Nat → Int32} {cf cp : Nat}
def C6 (f : Nat → Int32) (l : Nat) : Nat → Prop := fun p => ¬ kdE f l p = 262
def C7 (f : Nat → Int32) (l : Nat) : Nat → Prop := fun p => ¬ kdE f l p = 262 ∧ ¬ kdE f l p = 263
theorem five (hB : BYT f l) (h5c : cf ≤ 5) (h5p : cp ≤ 5) (hF : ∀ k, k < cf → NRc G (80 + 7 * k) (Gf k)) (hP : ∀ k, k < cp → NRc G (115 + 7 * k) (Gp k)) : ∀ g : Nat,
    (∀ (t : hS) (q : hQ) (st : List Nat) (G0 : Nat), CQ f l bs pl t q [] st → l + 1 ≤ G0 + t.1 → 4 * (l + 2 - t.1) + 1 ≤ g → FIN f l bs pl Gf cf Gp cp 1 G0 true t t.2.2.1 5 (fun _ => True) st (rd G f l bs pl cp cf g 0 0 q)) ∧
    (∀ (t : hS) (q : hQ) (st : List Nat) (G0 : Nat), CQ f l bs pl t q [] st → TOPB 6 t.2.2.1 → l + 1 ≤ G0 + t.1 → 4 * (l + 2 - t.1) + 2 ≤ g → FIN f l bs pl Gf cf Gp cp 1 G0 true t t.2.2.1 6 (C6 f l) st (rd G f l bs pl cp cf g 1 0 q)) ∧
    (∀ (t : hS) (q : hQ) (st : List Nat) (G0 : Nat), CQ f l bs pl t q [] st → TOPB 7 t.2.2.1 → l + 1 ≤ G0 + t.1 → 4 * (l + 2 - t.1) + 3 ≤ g → FIN f l bs pl Gf cf Gp cp 1 G0 true t t.2.2.1 7 (C7 f l) st (rd G f l bs pl cp cf g 2 0 q)) ∧
    (∀ (t : hS) (q : hQ) (r base : hW) (k : Nat) (st : List Nat) (G0 : Nat), CQ f l bs pl t q r (k :: st) → t.2.2.1 = base ++ r.reverse → (∀ x, x ∈ r → x.1 ≤ 6) → TOPB 6 base → l + 1 ≤ G0 + t.1 → 4 * (l + 2 - t.1) + 1 ≤ g → FIN f l bs pl Gf cf Gp cp 0 G0 false t base 6 (C6 f l) st (rd G f l bs pl cp cf g 3 (Int32.ofNat k) q)) ∧
    (∀ (t : hS) (q : hQ) (r base : hW) (k : Nat) (st : List Nat) (G0 : Nat), CQ f l bs pl t q r (k :: st) → t.2.2.1 = base ++ r.reverse → (∀ x, x ∈ r → x.1 ≤ 7) → TOPB 7 base → l + 1 ≤ G0 + t.1 → 4 * (l + 2 - t.1) + 1 ≤ g → C6 f l t.1 → FIN f l bs pl Gf cf Gp cp 0 G0 false t base 7 (C7 f l) st (rd G f l bs pl cp cf g 4 (Int32.ofNat k) q))
  | 0 => ⟨fun _ _ _ _ _ _ h => by omega, fun _ _ _ _ _ _ _ h => by omega, fun _ _ _ _ _ _ _ h => by omega, fun _ _ _ _ _ _ _ _ _ _ _ _ h => by omega, fun _ _ _ _ _ _ _ _ _ _ _ _ h => by omega⟩
  | g + 1 => by
    obtain ⟨i0, i1, i2, i3, i4⟩ := five hB h5c h5p hF hP g
    have hbad := rd_bad (G := G) (f := f) (l := l) (bs := bs) (pl := pl) (cf := cf) (cp := cp) g
    refine ⟨?_, ?_, ?_, ?_, ?_⟩
    · intro t q st G0 hQ9 hg hm
      have h9 : t.1 ≤ l := hQ9.2.2.2.2.2.2.2.2
      exact it_all hbad hB h5c h5p hF hP hQ9 hg (fun t1 q1 st1 G1 a1 _ a3 a4 => i0 t1 q1 st1 G1 a1 a3 (by omega)) (fun t1 q1 st1 G1 a1 a2 a3 a4 => i2 t1 q1 st1 G1 a1 a2 a3 (by omega))
    · intro t q st G0 hQ9 ht hg hm
      refine FIN.tr (i0 t q st G0 hQ9 hg (by omega)) (fun z => hbad _ _ _ z) fun G' t' r k a1 a2 a3 a4 a5 a6 a7 => ?_
      have h9 : t'.1 ≤ l := a5.2.2.2.2.2.2.2.2
      have F := i3 t' _ r t.2.2.1 k st G' a5 a3 (fun x hx => Int32.le_trans (a4 x hx) (by decide)) ht a1 (by omega)
      rw [← a6] at F
      exact F
    · intro t q st G0 hQ9 ht hg hm
      have ht6 : TOPB 6 t.2.2.1 := fun x hx z => ht x hx (Int32.le_trans z (by decide))
      refine FIN.tr (i1 t q st G0 hQ9 ht6 hg (by omega)) (fun z => hbad _ _ _ z) fun G' t' r k a1 a2 a3 a4 a5 a6 a7 => ?_
      have h9 : t'.1 ≤ l := a5.2.2.2.2.2.2.2.2
      have F := i4 t' _ r t.2.2.1 k st G' a5 a3 (fun x hx => Int32.le_trans (a4 x hx) (by decide)) ht a1 (by omega) a7
      rw [← a6] at F
      exact F
    · intro t q r base k st G0 hQ9 hw hr ht hg hm
      have h9 : t.1 ≤ l := hQ9.2.2.2.2.2.2.2.2
      refine lp_step (s := 6) (c := 262) (Bi := 5) (Ci := fun _ => True) hbad lw_6 (kd_262 hB) (by decide) (by decide) (Or.inl rfl) (fun x hx => Int32.le_trans hx (by decide)) (fun z => wl_big (c := 262) hB (by decide) (by decide) z) hQ9 hw hr ht hg (fun z => z) ?_ ?_
      · intro t1 q1 G1 b1 b2 b3 b4
        have F := i0 t1 q1 (k :: st) G1 b1 b3 (by omega)
        rw [b2] at F
        exact F
      · intro t2 q2 r2 k2 G2 b1 b2 b3 b4 b5 b6
        exact i3 t2 q2 r2 base k2 st G2 b1 b2 b3 ht b4 (by omega)
    · intro t q r base k st G0 hQ9 hw hr ht hg hm h6
      have h9 : t.1 ≤ l := hQ9.2.2.2.2.2.2.2.2
      refine lp_step (s := 7) (c := 263) (Bi := 6) (Ci := C6 f l) hbad lw_7 (kd_263 hB) (by decide) (by decide) (Or.inr rfl) (fun x hx => Int32.le_trans hx (by decide)) (fun z => wl_big (c := 263) hB (by decide) (by decide) z) hQ9 hw hr ht hg (fun z => ⟨h6, z⟩) ?_ ?_
      · intro t1 q1 G1 b1 b2 b3 b4
        have F := i1 t1 q1 (k :: st) G1 b1 (by rw [b2]; exact top_app (by decide)) b3 (by omega)
        rw [b2] at F
        exact F
      · intro t2 q2 r2 k2 G2 b1 b2 b3 b4 b5 b6
        exact i4 t2 q2 r2 base k2 st G2 b1 b2 b3 ht b4 (by omega) b6
/-- the number on top is the last one -/
theorem ndR_top {F : Nat → Int32} : ∀ (fo : hW) (st : List Nat) (n : Nat) (st' : List Nat) (x : Int32 × Int32), ndR F bs (fo ++ [x]) st n st' → ∃ r, st' = (n + fo.length) :: r := fun fo st n st' x h => by
  obtain ⟨s1, h1, s2, h2, h3⟩ := (ndR_app fo [x] st n st').mp h
  obtain rfl : st' = s2 := h3
  rcases h2.2 with ⟨_, _, e⟩ | ⟨_, a, r, _, _, _, e⟩ | ⟨_, b, a, r, _, _, _, e⟩
  · exact ⟨_, e⟩
  · exact ⟨_, e⟩
  · exact ⟨_, e⟩
/-- a whole formula on both sides -/
theorem rf_both (hB : BYT f l) (h5c : cf ≤ 5) (h5p : cp ≤ 5) (hF : ∀ k, k < cf → NRc G (80 + 7 * k) (Gf k)) (hPn : ∀ k, k < cp → NRc G (115 + 7 * k) (Gp k)) {p : Nat} {T : hP} {F : Nat → Int32} (hl : l ≤ 600) (h : RE f l p false T) : (¬ er (rfQ G f l bs pl cp cf F T).2.2.2 = 0 ∧ (rlC (cRd f l Gf cf Gp cp pl 601 true (p, false, [], 0, 0, []))).2.1 = true) ∨ ∃ (p' nd : Nat) (fo : hW) (k : Nat), rlC (cRd f l Gf cf Gp cp pl 601 true (p, false, [], 0, 0, [])) = (p', false, [], 0, nd, fo) ∧ RE f l p' false (rfQ G f l bs pl cp cf F T).2.2.2 ∧ p + 1 ≤ p' ∧ p' ≤ l ∧ fo.length = k + 1 ∧ k < 60 ∧ (rfQ G f l bs pl cp cf F T).1 bs = Int32.ofNat fo.length ∧ ndR (rfQ G f l bs pl cp cf F T).1 bs fo [] 0 [k] ∧ (∀ x, x ∈ fo → OKX pl x) := by
  have hpl : p ≤ l := by
    obtain ⟨a, b⟩ := h.2 rfl
    rw [a]
    exact (sk_lt b).2
  have F1 := (five (bs := bs) (pl := pl) hB h5c h5p hF hPn (4 * (l + 2) + 3)).2.2.1 (p, false, [], 0, 0, []) (fun k => if k = bs then 0 else F k, 0, 0, T) [] 601 ⟨rfl, h, rfl, rfl, ⟨Nat.zero_le _, Nat.zero_le _, Nat.le_refl 0, rfl⟩, if_pos rfl, rfl, fun x hx => absurd hx (List.not_mem_nil), hpl⟩ (fun x hx => by cases hx) (by show l + 1 ≤ 601 + p; omega) (by show 4 * (l + 2 - p) + 3 ≤ 4 * (l + 2) + 3; omega)
  have hrf : rfQ G f l bs pl cp cf F T = (rd G f l bs pl cp cf (4 * (l + 2) + 3) 2 0 (fun k => if k = bs then 0 else F k, 0, 0, T)).2 := rfl
  rw [hrf]
  obtain ⟨R1, hR1⟩ : ∃ R1, rd G f l bs pl cp cf (4 * (l + 2) + 3) 2 0 (fun k => if k = bs then 0 else F k, 0, 0, T) = R1 := ⟨_, rfl⟩
  rw [hR1] at F1 ⊢
  rcases F1 with ⟨b1, b2⟩ | ⟨G', t', r, k, b1, b2, b3, b4, b5, b6, b7, b8⟩
  · exact Or.inl ⟨b1, b2⟩
  · obtain ⟨p', e9, ws', op', nd', fo'⟩ := t'
    have hw : ws' = [] ++ r.reverse := b4
    obtain ⟨d1, d2, d3, d4, d5, d6, d7, d8, d9⟩ := b6
    obtain rfl : e9 = false := d1
    have d9 : p' ≤ l := d9
    have b2 : l + 1 ≤ G' + p' := b2
    have b3 : p + 1 ≤ p' := b3
    have d6 : R1.2.1 bs = Int32.ofNat (fo'.length + r.length) := d6
    have d7 : ndR R1.2.1 bs (fo' ++ r) [] 0 [k] := d7
    have hnp : npF ws' = r.length := by
      rw [hw, np_rev [] r b5]
      exact Nat.zero_add _
    have hop : op' = 0 := by
      have i4 : ws'.length = npF ws' + op' := d5.2.2.2
      rw [hnp, hw, List.nil_append, List.length_reverse] at i4
      omega
    have h60 : fo'.length + r.length ≤ 60 := by
      have i3 : npF ws' + fo'.length ≤ nd' := d5.2.2.1
      have i2 : nd' ≤ 60 := d5.2.1
      omega
    obtain ⟨G2, rfl⟩ : ∃ G2, G' = G2 + 1 := ⟨G' - 1, by omega⟩
    have hend : cRd f l Gf cf Gp cp pl (G2 + 1) false (p', false, ws', op', nd', fo') = (p', false, ws', op', nd', fo') := by
      have e : cRd f l Gf cf Gp cp pl (G2 + 1) false (p', false, ws', op', nd', fo') = if false = true then (p', false, ws', op', nd', fo') else if false = true then cRd f l Gf cf Gp cp pl G2 (itC f l Gf cf Gp cp pl (p', false, ws', op', nd', fo')).1 (itC f l Gf cf Gp cp pl (p', false, ws', op', nd', fo')).2 else if kdE f l p' - 256 = 6 ∨ kdE f l p' - 256 = 7 then cRd f l Gf cf Gp cp pl G2 true (joC f l (p', false, ws', op', nd', fo')) else if 0 < op' then cRd f l Gf cf Gp cp pl G2 false (clC f l (p', false, ws', op', nd', fo')) else (p', false, ws', op', nd', fo') := rfl
      rw [e, if_neg (by decide), if_neg (by decide), if_neg (fun z => by
        rcases z with z | z
        · exact b8.1 ((k256 (by decide)).mp z)
        · exact b8.2 ((k256 (by decide)).mp z)), if_neg (by omega)]
    have hrel : relF 7 ws'.length ws' fo' = ([], fo' ++ r) := by
      rw [hw]
      exact relF_pre (fun x hx => by cases hx) r fo' b5
    have hrl : rlC (p', false, ws', op', nd', fo') = (p', false, [], 0, nd', fo' ++ r) := by
      show (p', false, (relF 7 ws'.length ws' fo').1, op', nd', (relF 7 ws'.length ws' fo').2) = _
      rw [hrel, hop]
    have hlen : (fo' ++ r).length = k + 1 := by
      rcases List.eq_nil_or_concat (fo' ++ r) with e | ⟨L, x, e⟩
      · rw [e] at d7
        have d7 : [k] = [] := d7
        cases d7
      · rw [e] at d7 ⊢
        rw [List.concat_eq_append] at d7 ⊢
        obtain ⟨r9, e9⟩ := ndR_top L [] 0 [k] x d7
        rw [List.length_append, List.length_singleton]
        have := (List.cons.inj e9).1
        omega
    refine Or.inr ⟨p', nd', fo' ++ r, k, by rw [b1, hend, hrl], d2, b3, d9, hlen, ?_, ?_, d7, d8⟩
    · rw [List.length_append] at hlen
      omega
    · rw [List.length_append]
      exact d6
end NF
end N_zn
