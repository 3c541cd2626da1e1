section N_t
/-! ===== the class, exactly: a person, the real world ===== -/
/-- a person: place, error, names, how many, what they see -/
def psS (f : Nat → Int32) (l : Nat) (Gf : Nat → Int32) (cf : Nat) (Gp : Nat → Int32) (cp : Nat) (sn : Nat → Int32) (p : Nat) : nmS × (Nat → Int32) := if cp = 5 then ((p, true, Gp, cp), sn) else if (nwS f l (nxE f l p, false, Gp, cp)).2.1 = true then (nwS f l (nxE f l p, false, Gp, cp), sn) else (((tsF f l Gf cf (cf + 1) 0 (nwS f l (nxE f l p, false, Gp, cp)).1).2.1, (tsF f l Gf cf (cf + 1) 0 (nwS f l (nxE f l p, false, Gp, cp)).1).2.2, (nwS f l (nxE f l p, false, Gp, cp)).2.2), nxG sn cp (tsF f l Gf cf (cf + 1) 0 (nwS f l (nxE f l p, false, Gp, cp)).1).1)
def psP (sh : List mm_C) (V : hV) (f : Nat → Int32) (l q : Nat) (Gf : Nat → Int32) (cf : Nat) (lw : Nat) (fi re : Int32) (r : nmS × (Nat → Int32)) : mm_V → mm_H → Prop := fun v g => ∃ W : hV, v = .inl none ∧ g = hH sh W ∧ SRE sh W f l r.1.1 r.1.2.1 ∧ SCX W q Gf cf r.1.2.2.1 r.1.2.2.2 r.2 lw fi re ∧ FrD q V W
theorem s_readPerson {S : ww_S} {sh : List mm_C} {V : hV} {f : Nat → Int32} {l p q : Nat} {Gf : Nat → Int32} {cf : Nat} {Gp : Nat → Int32} {cp : Nat} {sn : Nat → Int32} {lw : Nat} {fi re : Int32} (h : SRC sh V f l p 0) (hX : SCX V q Gf cf Gp cp sn lw fi re) (hk : kDR sh) (hq : kScene sh q) (h100 : 100 ≤ q) : EVQ S 5 5 [.ref 79, .ref q] (hH sh V) (psP sh V f l q Gf cf lw fi re (psS f l Gf cf Gp cp sn p)) := by
  have ho := h.o
  obtain ⟨x1, x2, x3, x4, x5, x6, x7, x8, x9, x10, x11⟩ := id hX
  refine ev_of P5 rfl ?_
  refine wp_aload_n k5_0 rfl rfl ?_
  refine wq_getR k5_1 hq.1 rfl ?_
  refine wp_getI k5_4 hq.2.2.1.1.h hq.2.2.1.1.o rfl _ x5 ?_
  refine wp_istore_n (L1 := [_, _, _]) k5_7 rfl rfl ?_
  refine wp_aload_n k5_8 rfl rfl ?_
  refine wq_getR k5_9 hq.1 rfl ?_
  refine wp_cv (st2 := []) k5_12 (s_full5 hq.2.2.1 x5 x6) (by decide) rfl rfl rfl rfl hq.2.2.1.1.h hq.2.2.1.1.o (by decide) ?_
  unfold psS
  by_cases c5 : cp = 5
  · rw [decide_eq_true c5, if_pos c5]
    obtain ⟨W, E, h1, hF⟩ := s_fail (S := S) h (c := 3) (x := Int32.ofNat p)
    refine wp_if_eq_F k5_15 (by decide) ?_
    refine wp_aload_n k5_18 rfl rfl ?_
    refine wq_getR k5_19 hk.1 rfl ?_
    refine wp_iconst 3 k5_22 (by decide) ?_
    refine wp_aload_n k5_23 rfl rfl ?_
    refine wq_getR k5_24 hk.1 rfl ?_
    refine wp_getI k5_27 h.S.1.h ho rfl _ h.kd.2.1 ?_
    refine wp_cvn (st2 := []) k5_30 E (by decide) rfl rfl rfl rfl (by decide) ho (by decide) ?_
    exact wp_retN k5_33 rfl ⟨W, rfl, rfl, h1.e1 (er_ne rfl (by decide)), hX.fr fun b b1 _ => hF b (by omega), fun b b1 _ => hF b (by omega)⟩
  · rw [decide_eq_false c5, if_neg c5]
    refine wp_if_eq_T k5_15 rfl ?_
    obtain ⟨V1, E1, h1, hF1⟩ := s_advance (S := S) h
    have hC1 : CNs sh V1 f l (q + 3) (nxE f l p, false, Gp, cp) := ⟨0, h1, ⟨fun _ => rfl, fun _ => rfl⟩, (congrFun (hF1 _ (by omega)) 1).trans x5, x6, (hF1 _ (by omega)).trans x4⟩
    obtain ⟨V2, E2, hF2, hC2⟩ := s_tkN (S := S) hC1 hq.2.2.1 (by omega)
    refine wp_aload_n k5_34 rfl rfl ?_
    refine wq_getR k5_35 hk.1 rfl ?_
    refine wp_cvn (st2 := []) k5_38 E1 (by decide) rfl rfl rfl rfl (by decide) ho (by decide) ?_
    refine wp_aload_n k5_41 rfl rfl ?_
    refine wq_getR k5_42 hk.1 rfl ?_
    refine wp_aload_n k5_45 rfl rfl ?_
    refine wq_getR k5_46 hq.1 rfl ?_
    refine wp_cvn (st2 := []) k5_49 E2 (by decide) rfl rfl rfl rfl (by decide) ho (by decide) ?_
    refine wp_aload_n k5_52 rfl rfl ?_
    refine wq_getR k5_53 hk.1 rfl ?_
    refine wp_cv (st2 := []) k5_56 (st_errN hC2) (by decide) rfl rfl rfl rfl (by decide) ho (by decide) ?_
    obtain ⟨t, ht⟩ : ∃ t, nwS f l (nxE f l p, false, Gp, cp) = t := ⟨_, rfl⟩
    rw [ht] at hC2 ⊢
    obtain ⟨e, y1, y2, y3, y4, y5⟩ := id hC2
    have gV2 : ∀ b, b ≠ 65 → b ≠ q + 3 → b ≠ q + 4 → V2.1 b = V.1 b := fun b b1 b2 b3 => (hF2 b b1 b2 b3).trans (hF1 b b1)
    have hX2 : SCX V2 q Gf cf t.2.2.1 t.2.2.2 sn lw fi re := ⟨(gV2 _ (by omega) (by omega) (by omega)).trans x1, (congrFun (gV2 _ (by omega) (by omega) (by omega)) 1).trans x2, x3, y5, y3, y4, (gV2 _ (by omega) (by omega) (by omega)).trans x7, (congrFun (gV2 q (by omega) (by omega) (by omega)) 3).trans x8, x9, (congrFun (gV2 q (by omega) (by omega) (by omega)) 4).trans x10, (congrFun (gV2 q (by omega) (by omega) (by omega)) 5).trans x11⟩
    cases cE : t.2.1 with
    | true =>
      rw [if_pos rfl]
      refine wp_if_ne_T k5_59 (by decide) ?_
      exact wp_retN k5_81 rfl ⟨V2, rfl, rfl, ⟨e, y1, y2⟩, hX2, fun b b1 b2 => gV2 b (by omega) (by omega) (by omega)⟩
    | false =>
      rw [if_neg (by decide)]
      have e0 : e = 0 := y2.mpr cE
      rw [e0] at y1
      obtain ⟨u, g, E3, W, e3, e1, e2, hFW, hSW, heW⟩ := s_takeSet (S := S) y1 hq.2.1 (by omega) hX2.2.1 x3
      subst e1 e2
      rw [hX2.1] at E3 hSW heW
      have E4 := s_put (S := S) (V := W) hq.2.2.2.r (by decide) (i := Int32.ofNat cp) (x := (tsF f l Gf cf (cf + 1) 0 t.1).1)
      rw [putV_up (by omega) (by decide)] at E4
      refine wp_if_ne_F k5_59 rfl ?_
      refine wp_aload_n k5_62 rfl rfl ?_
      refine wq_getR k5_63 hq.1 rfl ?_
      refine wp_iload_n k5_66 rfl rfl ?_
      refine wp_aload_n k5_67 rfl rfl ?_
      refine wq_getR k5_68 hk.1 rfl ?_
      refine wp_aload_n k5_71 rfl rfl ?_
      refine wq_getR k5_72 hq.1 rfl ?_
      refine wp_cv (st2 := [_, _]) k5_75 E3 (by decide) rfl rfl rfl rfl (by decide) ho (by decide) ?_
      refine wp_csn (st2 := []) k5_78 E4 (by decide) rfl rfl rfl (by decide) ?_
      have gW : ∀ b, b ≠ 65 → b ≠ q + 5 → (up W (q + 5) cp (tsF f l Gf cf (cf + 1) 0 t.1).1).1 b = V2.1 b := fun b b1 b2 => (funext fun j => up_ne _ _ (Or.inl b2)).trans (hFW b b1)
      obtain ⟨z1, z2, z3, z4, z5, z6, z7, z8, z9, z10, z11⟩ := hX2
      refine wp_retN k5_81 rfl ⟨_, rfl, rfl, ⟨e3, hSW.fr fun b b1 b2 => funext fun j => up_ne _ _ (Or.inl (by omega)), heW⟩, ⟨(gW _ (by omega) (by omega)).trans z1, (congrFun (gW _ (by omega) (by omega)) 1).trans z2, z3, (gW _ (by omega) (by omega)).trans z4, (congrFun (gW _ (by omega) (by omega)) 1).trans z5, z6, ?_, (congrFun (gW q (by omega) (by omega)) 3).trans z8, z9, (congrFun (gW q (by omega) (by omega)) 4).trans z10, (congrFun (gW q (by omega) (by omega)) 5).trans z11⟩, fun b b1 b2 => (gW b (by omega) (by omega)).trans (gV2 b (by omega) (by omega) (by omega))⟩
      funext j
      show (up W (q + 5) cp _).1 (q + 5) j = if j = cp then _ else sn j
      by_cases cj : j = cp
      · rw [if_pos cj, cj]
        exact up_eq _ _ _ _
      · rw [if_neg cj]
        exact (up_ne _ _ (Or.inr cj)).trans ((congrFun (hFW _ (by omega)) j).trans (congrFun z7 j))
theorem or_lt : ∀ a : Fin 32, ∀ i : Fin 5, mm_un (Int32.ofNat a.val ||| (1 : Int32) <<< (Int32.ofNat i.val &&& 31)) < 32 := by decide +kernel
theorem ts_lt {f : Nat → Int32} {l : Nat} {G : Nat → Int32} {c : Nat} (h5 : c ≤ 5) : ∀ (g : Nat) (s : Int32) (p : Nat), mm_un s < 32 → mm_un (tsF f l G c g s p).1 < 32
  | 0, s, p, h => h
  | g + 1, s, p, h => by
    unfold tsF
    by_cases c1 : kdE f l p = 256
    · rw [if_pos c1]
      by_cases c2 : fdF G c (nmE f l p) = -1 ∨ hasB s (fdF G c (nmE f l p)) = true
      · rw [if_pos c2]
        exact h
      · rw [if_neg c2]
        refine ts_lt h5 g _ _ ?_
        rcases fd_lt (fun i => decide (G i = nmE f l p)) c 0 with q | ⟨i, i0, i1, _, e⟩
        · exact absurd (Or.inl q) c2
        · have e : fdF G c (nmE f l p) = Int32.ofNat i := e
          rw [e, ← wx_un s]
          exact or_lt ⟨mm_un s, h⟩ ⟨i, by omega⟩
    · rw [if_neg c1]
      exact h
/-- the real world -/
def rlS (f : Nat → Int32) (l : Nat) (Gf : Nat → Int32) (cf : Nat) (fi : Int32) (p : Nat) : Nat × Bool × Int32 := ((tsF f l Gf cf (cf + 1) 0 (nxE f l p)).2.1, ((tsF f l Gf cf (cf + 1) 0 (nxE f l p)).2.2 || !hasB fi (tsF f l Gf cf (cf + 1) 0 (nxE f l p)).1) || !decide (kdE f l (tsF f l Gf cf (cf + 1) 0 (nxE f l p)).2.1 = 267), (tsF f l Gf cf (cf + 1) 0 (nxE f l p)).1)
def rlQ (sh : List mm_C) (V : hV) (f : Nat → Int32) (l q : Nat) (Gf : Nat → Int32) (cf : Nat) (Gp : Nat → Int32) (cp : Nat) (sn : Nat → Int32) (lw : Nat) (fi : Int32) (r : Nat × Bool × Int32) : mm_V → mm_H → Prop := fun v g => ∃ W : hV, v = .inl none ∧ g = hH sh W ∧ SRE sh W f l r.1 r.2.1 ∧ SCX W q Gf cf Gp cp sn lw fi r.2.2 ∧ FrD q V W
theorem s_readReal {S : ww_S} {sh : List mm_C} {V : hV} {f : Nat → Int32} {l p q : Nat} {Gf : Nat → Int32} {cf : Nat} {Gp : Nat → Int32} {cp : Nat} {sn : Nat → Int32} {lw : Nat} {fi re : Int32} (h : SRC sh V f l p 0) (hX : SCX V q Gf cf Gp cp sn lw fi re) (hk : kDR sh) (hq : kScene sh q) (h100 : 100 ≤ q) : EVQ S 5 6 [.ref 79, .ref q] (hH sh V) (rlQ sh V f l q Gf cf Gp cp sn lw fi (rlS f l Gf cf fi p)) := by
  have ho := h.o
  obtain ⟨x1, x2, x3, x4, x5, x6, x7, x8, x9, x10, x11⟩ := id hX
  refine ev_of P6 rfl ?_
  refine wp_aload_n k6_0 rfl rfl ?_
  refine wq_getR k6_1 hk.1 rfl ?_
  refine wp_getI k6_4 h.S.1.h ho rfl _ h.kd.2.1 ?_
  refine wp_istore_n (L1 := [_, _, _]) k6_7 rfl rfl ?_
  obtain ⟨V1, E1, h1, hF1⟩ := s_advance (S := S) h
  refine wp_aload_n k6_8 rfl rfl ?_
  refine wq_getR k6_9 hk.1 rfl ?_
  refine wp_cvn (st2 := []) k6_12 E1 (by decide) rfl rfl rfl rfl (by decide) ho (by decide) ?_
  have hX1 : SCX V1 q Gf cf Gp cp sn lw fi re := hX.fr fun b b1 _ => hF1 b (by omega)
  obtain ⟨u, g, E2, W, e3, e1, e2, hFW, hSW, heW⟩ := s_takeSet (S := S) h1 hq.2.1 (by omega) hX1.2.1 x3
  subst e1 e2
  rw [hX1.1] at E2 hSW heW
  have hlt := ts_lt (f := f) (l := l) (G := Gf) x3 (cf + 1) 0 (nxE f l p) (by decide)
  unfold rlS
  obtain ⟨t, ht⟩ : ∃ t, tsF f l Gf cf (cf + 1) 0 (nxE f l p) = t := ⟨_, rfl⟩
  rw [ht] at E2 hSW heW hlt ⊢
  refine wp_aload_n k6_15 rfl rfl ?_
  refine wp_aload_n k6_16 rfl rfl ?_
  refine wq_getR k6_17 hk.1 rfl ?_
  refine wp_aload_n k6_20 rfl rfl ?_
  refine wq_getR k6_21 hq.1 rfl ?_
  refine wp_cv (st2 := [_]) k6_24 E2 (by decide) rfl rfl rfl rfl (by decide) ho (by decide) ?_
  refine wp_putI k6_27 hq.1.h hq.1.o rfl rfl rfl ?_
  obtain ⟨W2, hW2⟩ : ∃ W2, up W q 5 t.1 = W2 := ⟨_, rfl⟩
  rw [hW2]
  have g2 : ∀ b, b ≠ 65 → b ≠ q → W2.1 b = V.1 b := fun b b1 b2 => by
    rw [← hW2]
    exact (funext fun j => up_ne _ _ (Or.inl b2)).trans ((hFW b b1).trans (hF1 b b1))
  have gq : ∀ k, k ≠ 5 → W2.1 q k = V.1 q k := fun k hk5 => by
    rw [← hW2]
    exact (up_ne _ _ (Or.inr hk5)).trans (congrFun ((hFW q (by omega)).trans (hF1 q (by omega))) k)
  have g5 : W2.1 q 5 = t.1 := by
    rw [← hW2]
    exact up_eq _ _ _ _
  have hX2 : SCX W2 q Gf cf Gp cp sn lw fi t.1 := ⟨(g2 _ (by omega) (by omega)).trans x1, (congrFun (g2 _ (by omega) (by omega)) 1).trans x2, x3, (g2 _ (by omega) (by omega)).trans x4, (congrFun (g2 _ (by omega) (by omega)) 1).trans x5, x6, (g2 _ (by omega) (by omega)).trans x7, (gq 3 (by decide)).trans x8, x9, (gq 4 (by decide)).trans x10, g5⟩
  have hS2 : SRC sh W2 f l t.2.1 e3 := hSW.fr fun b b1 b2 => by
    rw [← hW2]
    exact funext fun j => up_ne _ _ (Or.inl (by omega))
  have hD2 : FrD q V W2 := fun b b1 b2 => g2 b (by omega) (by omega)
  have fin : ∀ (U : hV) (e : Int32) (b : Bool), SRC sh U f l t.2.1 e → (e = 0 ↔ b = false) → FrP W2 U → WP S 4 mm_m6 63 [some (.ref 79), some (.ref q), some (.int (Int32.ofNat p))] [] (hH sh U) (rlQ sh V f l q Gf cf Gp cp sn lw fi (t.2.1, b || !decide (kdE f l t.2.1 = 267), t.1)) := by
    intro U e b hU he hF
    obtain ⟨W5, E5, h5, hF5⟩ := s_needEnd (S := S) hU
    refine wp_aload_n k6_63 rfl rfl ?_
    refine wq_getR k6_64 hk.1 rfl ?_
    refine wp_cvn (st2 := []) k6_67 E5 (by decide) rfl rfl rfl rfl (by decide) ho (by decide) ?_
    have hg : ∀ b, b ≠ 65 → W5.1 b = W2.1 b := fun b b1 => (hF5 b b1).trans (hF b b1)
    refine wp_retN k6_70 rfl ⟨W5, rfl, rfl, ⟨_, h5, ?_⟩, hX2.fr fun b b1 _ => hg b (by omega), fun b b1 b2 => (hg b (by omega)).trans (hD2 b b1 b2)⟩
    by_cases c : kdE f l t.2.1 = 267
    · rw [if_pos c, decide_eq_true c]
      rw [he]
      show b = false ↔ (b || !true) = false
      cases b <;> decide
    · rw [if_neg c, decide_eq_false c]
      refine ⟨fun z => ?_, fun z => ?_⟩
      · exfalso
        unfold erN at z
        by_cases c0 : e = 0
        · rw [if_pos c0] at z
          exact absurd z (by decide)
        · rw [if_neg c0] at z
          exact c0 z
      · exfalso
        cases b <;> cases z
  refine wp_aload_n k6_30 rfl rfl ?_
  refine wq_getR k6_31 hk.1 rfl ?_
  refine wp_cv (st2 := []) k6_34 (s_hasError hS2) (by decide) rfl rfl rfl rfl (by decide) ho (by decide) ?_
  by_cases c0 : e3 = 0
  · rw [decide_eq_true c0]
    have hb : t.2.2 = false := heW.mp c0
    rw [hb]
    obtain ⟨n, hn⟩ : ∃ n, mm_un t.1 = n := ⟨_, rfl⟩
    rw [hn] at hlt
    have ht1 : t.1 = Int32.ofNat n := by rw [← hn, wx_un]
    have EI := s_isIn (S := S) (h := hH sh W2) (s := fi) hlt
    rw [← ht1] at EI
    refine wp_if_ne_F k6_37 rfl ?_
    refine wp_aload_n k6_40 rfl rfl ?_
    refine wp_getI k6_41 hq.1.h hq.1.o rfl _ hX2.2.2.2.2.2.2.2.2.2.1 ?_
    refine wp_aload_n k6_44 rfl rfl ?_
    refine wp_getI k6_45 hq.1.h hq.1.o rfl _ g5 ?_
    refine wp_cs (st2 := []) k6_48 EI (by decide) rfl rfl rfl (by decide) ?_
    cases cB : hasB fi t.1 with
    | true =>
      refine wp_if_ne_T k6_51 (by decide) ?_
      exact fin W2 e3 (false || !true) hS2 ⟨fun _ => rfl, fun _ => c0⟩ (fun b _ => rfl)
    | false =>
      rw [c0] at hS2
      obtain ⟨W5, E5, h5, hF5⟩ := s_fail (S := S) hS2 (c := 4) (x := Int32.ofNat p)
      refine wp_if_ne_F k6_51 rfl ?_
      refine wp_aload_n k6_54 rfl rfl ?_
      refine wq_getR k6_55 hk.1 rfl ?_
      refine wp_iconst 4 k6_58 (by decide) ?_
      refine wp_iload_n k6_59 rfl rfl ?_
      refine wp_cvn (st2 := []) k6_60 E5 (by decide) rfl rfl rfl rfl (by decide) ho (by decide) ?_
      exact fin W5 _ (false || !false) h5 ⟨fun z => absurd z (er_ne rfl (by decide)), fun z => (by cases z)⟩ hF5
  · rw [decide_eq_false c0]
    have hb : t.2.2 = true := by
      cases cb : t.2.2 with
      | true => rfl
      | false => exact absurd (heW.mpr cb) c0
    rw [hb]
    refine wp_if_ne_T k6_37 (by decide) ?_
    exact fin W2 e3 (true || !hasB fi t.1) hS2 ⟨fun z => absurd z c0, fun z => (by cases z)⟩ (fun b _ => rfl)
end N_t
