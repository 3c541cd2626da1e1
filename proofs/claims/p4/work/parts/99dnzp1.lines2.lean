section N_zp
/-! ===== the lines of a description on both sides, one by one ===== -/
theorem lw_law : LW 3 2195162545188048470124 = true := by decide
theorem lw_per : LW 6 160765180144170663739740739734469041235173086068848 = true := by decide
theorem lw_real : LW 4 8556641553329882635686364840050 = true := by decide
theorem kw_267 {f : Nat → Int32} {l p : Nat} : ¬ kwK f l p = 267 := by
  unfold kwK
  have key : ∀ (b : Bool) (x y : Int32), ¬ x = 267 → ¬ y = 267 → ¬ (if b = true then x else y) = 267 := fun b x y h1 h2 => by cases b <;> assumption
  exact key _ _ _ (by decide) (key _ _ _ (by decide) (key _ _ _ (by decide) (key _ _ _ (by decide) (key _ _ _ (by decide) (key _ _ _ (by decide) (key _ _ _ (by decide) (key _ _ _ (by decide) (by decide))))))))
theorem kd_267 {f : Nat → Int32} {l p : Nat} (hB : BYT f l) : kdE f l p = 267 ↔ byt f l p = -1 := by
  unfold kdE
  by_cases hp : p < l
  · rw [if_pos hp]
    refine ⟨fun z => ?_, fun z => ?_⟩
    · unfold kdF at z
      by_cases w : wl f l p = 0
      · rw [if_pos w] at z
        exact absurd z (byt_256 (c := 267) hB (by decide) (by decide) hp)
      · rw [if_neg w] at z
        by_cases w6 : 6 < wl f l p
        · rw [if_pos w6] at z
          exact absurd z (by decide)
        · rw [if_neg w6] at z
          exact absurd z kw_267
    · obtain ⟨b, hb, e⟩ := hB p hp
      unfold byt at z
      rw [if_pos hp, e] at z
      have := congrArg mm_un z
      rw [i_un (by omega)] at this
      rw [show mm_un (-1) = 4294967295 by decide] at this
      omega
  · rw [if_neg hp]
    exact ⟨fun _ => if_neg hp, fun _ => rfl⟩
/-- a word is neither the end nor a sign -/
theorem wd_not {f : Nat → Int32} {l p : Nat} (h : ¬ wl f l p = 0) : ¬ kdE f l p = 267 ∧ ¬ kdE f l p = 59 := by
  have hp := (wd_nx h).1
  refine ⟨fun z => ?_, fun z => ?_⟩
  · unfold kdE kdF at z
    rw [if_pos hp, if_neg h] at z
    by_cases w6 : 6 < wl f l p
    · rw [if_pos w6] at z
      exact absurd z (by decide)
    · rw [if_neg w6] at z
      exact absurd z kw_267
  · have b := (sg_k (by decide) (by decide) (by decide)).mp z
    exact h (wl_0.mpr (by rw [b]; decide))
theorem re_se {f : Nat → Int32} {l p n N : Nat} {T : hP} (hLW : LW n N = true) (h : RE f l p false T) : seB f l T n N = spB f l p n N := by
  obtain ⟨hp, hT⟩ := h.2 rfl
  unfold seB
  rw [decide_eq_true (h.1.mpr rfl), Bool.true_and, se_sp hLW, ← hp]
/-- a law on both sides -/
theorem re_law {f : Nat → Int32} {l p cf lw b : Nat} {V : hV} {T : hP} {Gf Gp : Nat → Int32} {fi : Int32} (hB : BYT f l) (hl : l ≤ 600) (h5c : cf ≤ 5) (h : RE f l p false T) (hw : ¬ wl f l p = 0) (hF : ∀ k, k < cf → NRc (V.1 313) (80 + 7 * k) (Gf k)) (hfi : V.1 313 2 = fi) (h6 : lw ≤ 6) : ((lwS f l Gf cf Gp 0 p lw fi).2.1 = true ∧ ¬ er (lwF f l 0 cf lw b V (nxP f l T)).2 = 0) ∨ ((lwS f l Gf cf Gp 0 p lw fi).2.1 = false ∧ RE f l (lwS f l Gf cf Gp 0 p lw fi).1 false (lwF f l 0 cf lw b V (nxP f l T)).2 ∧ (lwS f l Gf cf Gp 0 p lw fi).2.2.1 = lw + 1 ∧ lw + 1 ≤ 6 ∧ (lwF f l 0 cf lw b V (nxP f l T)).1.1 313 5 = Int32.ofNat (lw + 1) ∧ (lwF f l 0 cf lw b V (nxP f l T)).1.1 313 2 = (lwS f l Gf cf Gp 0 p lw fi).2.2.2 ∧ ∀ k, k ≠ 2 → k ≠ 5 → (lwF f l 0 cf lw b V (nxP f l T)).1.1 313 k = V.1 313 k) := by
  have e0 := h.1.mpr rfl
  unfold lwS lwF
  by_cases c6 : lw < 6
  · rw [if_pos c6, if_pos c6]
    have eX : er (muP 1 3 (nxP f l T)) = 0 := by
      rw [er_mu1]
      exact e0
    rw [if_pos eX]
    have hRE := re_go h hw 3
    have hR := rf_both (bs := 241 * 20) (pl := true) (Gf := Gf) (Gp := Gp) (G := V.1 313) (cp := 0) (F := V.1 320) hB h5c (Nat.zero_le _) hF (fun k hk => absurd hk (Nat.not_lt_zero _)) hl hRE
    have hT : rlC (cRd f l Gf cf Gp 0 true 601 true (nxE f l p, false, [], 0, 0, [])) = lwT f l Gf cf Gp 0 p := rfl
    have hQ : rfQ (V.1 313) f l (241 * 20) true 0 cf (V.1 320) (goP (muP 1 3 (nxP f l T))) = lwQ f l 0 cf V (muP 1 3 (nxP f l T)) := rfl
    rw [hT, hQ] at hR
    obtain ⟨q, hq⟩ : ∃ q, lwQ f l 0 cf V (muP 1 3 (nxP f l T)) = q := ⟨_, rfl⟩
    rw [hq] at hR ⊢
    rcases hR with ⟨a1, a2⟩ | ⟨p', nd, fo, k, a1, a2, a3, a4, a5, a6, a7, a8, a9⟩
    · rw [if_pos a2, if_neg a1]
      exact Or.inl ⟨rfl, a1⟩
    · rw [a1, if_neg Bool.false_ne_true, if_pos (a2.1.mpr rfl)]
      have hun : mm_un (q.1 (241 * 20)) = fo.length := by
        rw [a7]
        exact i_un (by omega)
      have h2 : (lwV V q).1 313 2 = fi := (lw_fr V q (by decide) (by decide)).trans hfi
      have htv := nd_tv (V := lwV V q) (np := 0) (f := 320) (b := 241 * 20) (m := fo.length) fo [] 0 [k] a8 (fun x hx => by
        obtain ⟨z1, z2⟩ := a9 x hx
        rcases z2 rfl with z | z | z | z
        · exact Or.inl ⟨z, z1 z⟩
        · exact Or.inr (Or.inl z)
        · exact Or.inr (Or.inr (Or.inl z))
        · exact Or.inr (Or.inr (Or.inr z))) (by omega) (by omega) (Nat.le_refl 0) (fun y hy => absurd hy (List.not_mem_nil))
      rw [h2] at htv
      have hlw : lwW 0 V q = (askF (lwV V q) 0 320 (241 * 20) fo.length).1 318 k := by
        unfold lwW lwA
        rw [hun, a5, Nat.add_sub_cancel]
      have hv : tvV fi fo = lwW 0 V q := by
        unfold tvV
        have htv : tvF fi fo [] = some [(askF (lwV V q) 0 320 (241 * 20) fo.length).1 318 k] := htv
        rw [htv, hlw]
      show (decide (tvV fi fo = 0) = true ∧ _) ∨ (decide (tvV fi fo = 0) = false ∧ _)
      rw [hv]
      by_cases c0 : lwW 0 V q = 0
      · rw [decide_eq_true c0, if_pos c0]
        refine Or.inl ⟨rfl, ?_⟩
        show ¬ er (muP 0 4 (beP b q.2.2.2)) = 0
        rw [er_mu0 (show er (beP b q.2.2.2) = 0 from a2.1.mpr rfl)]
        decide
      · rw [decide_eq_false c0, if_neg c0]
        refine Or.inr ⟨rfl, a2.cg rfl er_mu1, rfl, c6, up_eq _ _ _ _, (up_ne _ _ (Or.inr (by decide))).trans (up_eq _ _ _ _), fun j j2 j5 => ?_⟩
        exact (up_ne _ _ (Or.inr j5)).trans ((up_ne _ _ (Or.inr j2)).trans ((askF_ne _ _ _ _ (by decide) j _).trans (lw_fr V q (by decide) (by decide))))
  · rw [if_neg c6, if_neg c6]
    have eX : ¬ er (muP 0 3 (nxP f l T)) = 0 := by
      rw [er_mu0 (show er (nxP f l T) = 0 from e0)]
      decide
    rw [if_neg eX]
    exact Or.inl ⟨rfl, eX⟩
theorem bn_0 {c : Nat} (h : c ≤ 5) : bn 0 c = 0 := by
  obtain rfl | rfl | rfl | rfl | rfl | rfl : c = 0 ∨ c = 1 ∨ c = 2 ∨ c = 3 ∨ c = 4 ∨ c = 5 := by omega
  · rfl
  · decide
  · decide
  · decide
  · decide
  · decide
theorem nr_lay2 {V : hV} {f : Nat → Int32} {l p n : Nat} (hB : BYT f l) (h : kdE f l p = 256) : NRc ((layV V f l p (wl f l p) n).1 313) n (nmE f l p) := by
  obtain ⟨w1, w6, hx⟩ := nm_pk h hB
  have hl := ((wl_is (f := f) (l := l) (p := p) (n := wl f l p)).mp rfl).1
  refine ⟨wl f l p, dgF f l p, w1, w6, fun i hi => ⟨(dg_ltr (hl i hi)).1, (dg_ltr (hl i hi)).2.1⟩, ?_, fun i hi => ?_, hx⟩
  · exact ovr_some V (if_pos rfl)
  · rw [← (dg_ltr (hl i hi)).2.2]
    refine ovr_some V ?_
    unfold layG
    rw [if_neg (by omega), if_pos (by omega), show n + 1 + i - n - 1 = i by omega]
/-- a person on both sides: an error; a word that is no name; or both go on -/
theorem re_per {f : Nat → Int32} {l p cf m : Nat} {V : hV} {T : hP} {Gf Gp sn : Nat → Int32} (hB : BYT f l) (h5c : cf ≤ 5) (h5 : m ≤ 5) (e0 : er T = 0) (h : RE f l (nxE f l p) false (goP T)) (hF : ∀ k, k < cf → NRc (V.1 313) (80 + 7 * k) (Gf k)) (hP : ∀ k, k < m → NRc (V.1 313) (115 + 7 * k) (Gp k)) (hS : ∀ k, k < m → V.1 313 (150 + k) = sn k) : ((psS f l Gf cf Gp m sn p).1.2.1 = true ∧ ¬ er (pnF f l cf m V T).2 = 0) ∨ ((psS f l Gf cf Gp m sn p).1.2.1 = false ∧ ((¬ wl f l (psS f l Gf cf Gp m sn p).1.1 = 0 ∧ ¬ er (pnF f l cf m V T).2 = 0) ∨ (RE f l (psS f l Gf cf Gp m sn p).1.1 false (pnF f l cf m V T).2 ∧ (psS f l Gf cf Gp m sn p).1.2.2.2 = m + 1 ∧ m + 1 ≤ 5 ∧ (pnF f l cf m V T).1.1 313 1 = Int32.ofNat (m + 1) ∧ (∀ k, k < m + 1 → NRc ((pnF f l cf m V T).1.1 313) (115 + 7 * k) ((psS f l Gf cf Gp m sn p).1.2.2.1 k)) ∧ (∀ k, k < m + 1 → (pnF f l cf m V T).1.1 313 (150 + k) = (psS f l Gf cf Gp m sn p).2 k) ∧ ∀ k, k < 115 → k ≠ 1 → (pnF f l cf m V T).1.1 313 k = V.1 313 k))) := by
  unfold psS pnF
  by_cases c5 : m = 5
  · rw [if_pos c5, if_neg (show ¬ m < 5 by omega)]
    have eX : ¬ er (muP 0 3 T) = 0 := by
      rw [er_mu0 e0]
      decide
    rw [if_neg eX]
    exact Or.inl ⟨rfl, eX⟩
  · rw [if_neg c5, if_pos (show m < 5 by omega)]
    have eX : er (muP 1 3 T) = 0 := by
      rw [er_mu1]
      exact e0
    rw [if_pos eX]
    have hX : RE f l (nxE f l p) false (goP (muP 1 3 T)) := h.cg rfl er_mu1
    obtain ⟨X, hXX⟩ : ∃ X, goP (muP 1 3 T) = X := ⟨_, rfl⟩
    have hY : pnY (V.1 313) f l m (muP 1 3 T) = muP (if (rnP (V.1 313) f l 115 m X).1 = -1 then 1 else 0) 2 (rnP (V.1 313) f l 115 m X).2 := by
      rw [← hXX]
      rfl
    rw [hXX] at hX
    rw [hY]
    obtain ⟨hp, hT⟩ := hX.2 rfl
    rcases re_rn hB hX hP with ⟨k, r1, r2, r3⟩ | ⟨k, r1, r2⟩
    · rw [r1]
      by_cases c1 : fdF Gp m (nmE f l (nxE f l p)) = -1
      · have hnw : nwS f l (nxE f l p, false, Gp, m) = (nxE f l (nxE f l p), false, nxG Gp m (nmE f l (nxE f l p)), m + 1) := if_pos (nw_t k c1 c5)
        have eY : er (muP 1 2 (rnP (V.1 313) f l 115 m X).2) = 0 := by
          rw [er_mu1]
          exact r3.1.mpr rfl
        rw [if_pos c1, if_pos eY, hnw, if_neg Bool.false_ne_true]
        have hYY : RE f l (nxE f l (nxE f l p)) false (muP 1 2 (rnP (V.1 313) f l 115 m X).2) := r3.cg rfl er_mu1
        obtain ⟨Y, hYe⟩ : ∃ Y, muP 1 2 (rnP (V.1 313) f l 115 m X).2 = Y := ⟨_, rfl⟩
        have hYb : Y.2.1 = nxE f l p ∧ Y.2.2.1 = wl f l (nxE f l p) := by
          rw [← hYe, r2, hp]
          exact ⟨rfl, rfl⟩
        rw [hYe] at hYY ⊢
        have hL : pnL f l V Y m = layV V f l (nxE f l p) (wl f l (nxE f l p)) (115 + 7 * m) := by
          unfold pnL
          rw [hYb.1, hYb.2]
        have hwl6 := (nm_pk k hB).2.1
        obtain ⟨L, hLL⟩ : ∃ L, pnL f l V Y m = L := ⟨_, rfl⟩
        have hLo : ∀ j, j < 115 + 7 * m ∨ 115 + 7 * m + 7 ≤ j → L.1 313 j = V.1 313 j := fun j hj => by
          rw [← hLL, hL]
          exact lay_out (by omega)
        have hLn : NRc (L.1 313) (115 + 7 * m) (nmE f l (nxE f l p)) := by
          rw [← hLL, hL]
          exact nr_lay2 hB k
        have hK : pnK f l cf V Y m = rfF (L.1 313) f l cf (l + 3) 0 Y := by
          rw [← hLL]
          rfl
        rw [hLL, hK]
        have hTS := re_ts (G := L.1 313) (Gc := Gf) hB h5c (fun j hj => nr_cg (hF j hj) fun i i1 i2 => hLo i (Or.inl (by omega))) (cf + 1) 0 (nxE f l (nxE f l p)) Y (l + 3) (by rw [bn_0 h5c]; omega) hYY (by omega)
        obtain ⟨r, hr⟩ : ∃ r, tsF f l Gf cf (cf + 1) 0 (nxE f l (nxE f l p)) = r := ⟨_, rfl⟩
        obtain ⟨K, hKK⟩ : ∃ K, rfF (L.1 313) f l cf (l + 3) 0 Y = K := ⟨_, rfl⟩
        rw [hr, hKK] at hTS
        rw [hr, hKK]
        rcases hTS with ⟨t1, t2⟩ | ⟨t1, t2, t3, t4⟩ | ⟨t1, t2, t3, t4⟩
        · exact Or.inl ⟨t1, t2⟩
        · exact Or.inr ⟨t1, Or.inl ⟨t2, t4⟩⟩
        · refine Or.inr ⟨t1, Or.inr ⟨t4, rfl, by omega, up_eq _ _ _ _, fun j hj => ?_, fun j hj => ?_, fun j j1 j2 => ?_⟩⟩
          · have e : ∀ i, 115 + 7 * j ≤ i → i ≤ 115 + 7 * j + 6 → (up (up L 313 (150 + m) K.1) 313 1 (Int32.ofNat (m + 1))).1 313 i = L.1 313 i := fun i i1 i2 => (up_ne _ _ (Or.inr (by omega))).trans (up_ne _ _ (Or.inr (by omega)))
            refine nr_cg (G := L.1 313) ?_ e
            show NRc (L.1 313) (115 + 7 * j) (nxG Gp m (nmE f l (nxE f l p)) j)
            unfold nxG
            by_cases cj : j = m
            · rw [if_pos cj, cj]
              exact hLn
            · rw [if_neg cj]
              exact nr_cg (hP j (by omega)) fun i i1 i2 => hLo i (Or.inl (by omega))
          · show (up (up L 313 (150 + m) K.1) 313 1 (Int32.ofNat (m + 1))).1 313 (150 + j) = nxG sn m r.1 j
            refine (up_ne _ _ (Or.inr (by omega))).trans ?_
            unfold nxG
            by_cases cj : j = m
            · rw [if_pos cj, cj]
              exact (up_eq _ _ _ _).trans t3
            · rw [if_neg cj]
              exact (up_ne _ _ (Or.inr (by omega))).trans ((hLo _ (Or.inr (by omega))).trans (hS j (by omega)))
          · exact (up_ne _ _ (Or.inr j2)).trans ((up_ne _ _ (Or.inr (by omega))).trans (hLo _ (Or.inl (by omega))))
      · have hnb : nwB f l (nxE f l p) Gp m = false := by
          unfold nwB
          rw [decide_eq_false c1]
          simp
        have hnw : nwS f l (nxE f l p, false, Gp, m) = (nxE f l p, true, Gp, m) := if_neg (by rw [hnb]; decide)
        have eY : ¬ er (muP 0 2 (rnP (V.1 313) f l 115 m X).2) = 0 := by
          rw [er_mu0 (r3.1.mpr rfl)]
          decide
        rw [if_neg c1, if_neg eY, hnw, if_pos rfl]
        exact Or.inl ⟨rfl, eY⟩
    · have hnb : nwB f l (nxE f l p) Gp m = false := by
        unfold nwB
        rw [decide_eq_false k]
        simp
      have hnw : nwS f l (nxE f l p, false, Gp, m) = (nxE f l p, true, Gp, m) := if_neg (by rw [hnb]; decide)
      have eY : ¬ er (muP (if (rnP (V.1 313) f l 115 m X).1 = -1 then 1 else 0) 2 (rnP (V.1 313) f l 115 m X).2) = 0 := fun z => r2 (mu_er (by decide) z)
      rw [if_neg eY, hnw, if_pos rfl]
      exact Or.inl ⟨rfl, eY⟩
/-- the real world on both sides -/
theorem re_real {f : Nat → Int32} {l p cf b : Nat} {V : hV} {T : hP} {Gf : Nat → Int32} {fi : Int32} (hB : BYT f l) (h5c : cf ≤ 5) (h : RE f l (nxE f l p) false (goP T)) (hF : ∀ k, k < cf → NRc (V.1 313) (80 + 7 * k) (Gf k)) (hfi : V.1 313 2 = fi) : ((rlS f l Gf cf fi p).2.1 = true ∧ ¬ er (enF f l (rlF f l cf b V T).2) = 0) ∨ ((rlS f l Gf cf fi p).2.1 = false ∧ kdE f l (rlS f l Gf cf fi p).1 = 267 ∧ er (enF f l (rlF f l cf b V T).2) = 0 ∧ (rlF f l cf b V T).1.1 313 4 = (rlS f l Gf cf fi p).2.2) := by
  have hTS := re_ts (G := V.1 313) (Gc := Gf) hB h5c hF (cf + 1) 0 (nxE f l p) (goP T) (l + 3) (by rw [bn_0 h5c]; omega) h (by omega)
  have hK : rlK f l cf V T = rfF (V.1 313) f l cf (l + 3) 0 (goP T) := rfl
  unfold rlS rlF
  rw [← hK] at hTS
  obtain ⟨r, hr⟩ : ∃ r, tsF f l Gf cf (cf + 1) 0 (nxE f l p) = r := ⟨_, rfl⟩
  obtain ⟨K, hKK⟩ : ∃ K, rlK f l cf V T = K := ⟨_, rfl⟩
  rw [hr, hKK] at hTS
  rw [hr, hKK]
  have enb : ∀ X : hP, ¬ er X = 0 → ¬ er (enF f l X) = 0 := fun X hX => by
    unfold enF
    rw [if_neg hX]
    exact hX
  rcases hTS with ⟨t1, t2⟩ | ⟨t1, t2, t3, t4⟩ | ⟨t1, t2, t3, t4⟩
  · rw [if_neg t2, t1]
    exact Or.inl ⟨rfl, enb _ t2⟩
  · rw [if_neg t4, decide_eq_false (wd_not t2).1]
    refine Or.inl ⟨?_, enb _ t4⟩
    show ((r.2.2 || !hasB fi r.1) || !false) = true
    simp
  · rw [if_pos (t4.1.mpr rfl), t1, t3, hfi]
    cases hb : hasB fi r.1 with
    | false =>
      refine Or.inl ⟨rfl, enb _ ?_⟩
      show ¬ er (muP 0 4 (beP b K.2)) = 0
      rw [er_mu0 (show er (beP b K.2) = 0 from t4.1.mpr rfl)]
      decide
    | true =>
      obtain ⟨hp, hT⟩ := t4.2 rfl
      have e1 : er (muP 1 4 (beP b K.2)) = 0 := by
        rw [er_mu1]
        exact t4.1.mpr rfl
      have hby : byt f l (sk f l (muP (bI true) 4 (beP b K.2)).1) = byt f l r.2.1 := by
        rw [hp]
        rfl
      unfold enF
      rw [if_pos (show er (muP (bI true) 4 (beP b K.2)) = 0 from e1), hby]
      by_cases k : kdE f l r.2.1 = 267
      · rw [decide_eq_true k, if_pos ((kd_267 hB).mp k)]
        refine Or.inr ⟨rfl, k, ?_, up_eq _ _ _ _⟩
        rw [er_mu1]
        exact e1
      · rw [decide_eq_false k, if_neg (fun z => k ((kd_267 hB).mpr z))]
        refine Or.inl ⟨rfl, ?_⟩
        rw [er_mu0 (show er (nxP f l (muP (bI true) 4 (beP b K.2))) = 0 from e1)]
        decide
end N_zp
