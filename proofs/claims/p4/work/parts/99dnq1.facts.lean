section N_q
/-! ===== the class, exactly: the line of the facts ===== -/
abbrev nmS := Nat × Bool × (Nat → Int32) × Nat
def nxG (G : Nat → Int32) (c : Nat) (x : Int32) : Nat → Int32 := fun k => if k = c then x else G k
/-- names at a: the place, whether there was an error, the names, how many -/
def CNs (sh : List mm_C) (U : hV) (f : Nat → Int32) (l a : Nat) (t : nmS) : Prop := ∃ e : Int32, SRC sh U f l t.1 e ∧ (e = 0 ↔ t.2.1 = false) ∧ U.1 a 1 = Int32.ofNat t.2.2.2 ∧ t.2.2.2 ≤ 5 ∧ U.1 (a + 1) = t.2.2.1
/-- one more name -/
def nwS (f : Nat → Int32) (l : Nat) (t : nmS) : nmS := if nwB f l t.1 t.2.2.1 t.2.2.2 = true then (nxE f l t.1, t.2.1, nxG t.2.2.1 t.2.2.2 (nmE f l t.1), t.2.2.2 + 1) else (t.1, true, t.2.2.1, t.2.2.2)
/-- names as long as names stand here -/
def fcM (f : Nat → Int32) (l : Nat) : Nat → nmS → nmS
  | 0, t => t
  | g + 1, t => if kdE f l t.1 = 256 ∧ t.2.1 = false then fcM f l g (nwS f l t) else t
/-- the line of the facts -/
def fsM (f : Nat → Int32) (l : Nat) (G : Nat → Int32) (p : Nat) : nmS := fcM f l 6 (nwS f l (if spB f l p 5 39132472205098390151768970679218299994214 = true then (nxE f l p, false, G, 0) else (p, true, G, 0)))
theorem st_errN {S : ww_S} {sh : List mm_C} {U : hV} {f : Nat → Int32} {l a : Nat} {t : nmS} (h : CNs sh U f l a t) : EV S 1 76 [.ref 65] (hH sh U) (.inl (some (.int (bI t.2.1)))) (hH sh U) := by
  obtain ⟨e, hS, he, _⟩ := h
  have E := s_hasError (S := S) hS
  have e2 : (!decide (e = 0)) = t.2.1 := by
    by_cases c : e = 0
    · rw [decide_eq_true c, he.mp c]
      rfl
    · rw [decide_eq_false c]
      cases h2 : t.2.1 with
      | false => exact absurd (he.mpr h2) c
      | true => rfl
  rw [e2] at E
  exact E
theorem s_tkN {S : ww_S} {sh : List mm_C} {U : hV} {f : Nat → Int32} {l a : Nat} {t : nmS} (h : CNs sh U f l a t) (hN : kNames sh a) (ha : 70 ≤ a) : ∃ W, EV S 3 82 [.ref 65, .ref a] (hH sh U) (.inl none) (hH sh W) ∧ FrN a U W ∧ CNs sh W f l a (nwS f l t) := by
  obtain ⟨p, er, G, c⟩ := t
  obtain ⟨e, hS, he, hc, h5, hG⟩ := h
  obtain ⟨W, E, hF, r⟩ := s_takeNew (S := S) hS hN ha hc h5
  have hG : U.1 (a + 1) = G := hG
  rw [hG] at r
  refine ⟨W, E, hF, ?_⟩
  rcases r with ⟨b, c5, h2, h3, h4⟩ | ⟨b, q, hq, h2, h3, h4⟩
  · unfold nwS
    dsimp only
    rw [if_pos b]
    exact ⟨e, h2, he, h3, Nat.succ_le_of_lt c5, funext fun k => h4 k⟩
  · unfold nwS
    dsimp only
    rw [if_neg (by rw [b]; decide)]
    exact ⟨_, h2, ⟨fun z => absurd z (by
      unfold erN
      by_cases c0 : e = 0
      · rw [if_pos c0]
        exact hq
      · rw [if_neg c0]
        exact c0), fun z => (by cases z)⟩, (congrFun h3 1).trans hc, h5, h4⟩
def fsP (sh : List mm_C) (V : hV) (f : Nat → Int32) (l q : Nat) (t : nmS) : mm_V → mm_H → Prop := fun v g => ∃ W : hV, v = .inl none ∧ g = hH sh W ∧ CNs sh W f l (q + 1) t ∧ W.1 q 4 = wsN t.2.2.2 ∧ (∀ k, k ≠ 4 → W.1 q k = V.1 q k) ∧ ∀ b, b ≠ 65 → b ≠ q → b ≠ q + 1 → b ≠ q + 2 → W.1 b = V.1 b
theorem s_allBelow {S : ww_S} {h : mm_H} {c : Nat} (h5 : c ≤ 5) : EV S 1 161 [.int ((1 : Int32) <<< (Int32.ofNat c &&& 31))] h (.inl (some (.int (wsN c)))) h := by
  refine ev_qe P161 rfl ?_
  obtain rfl | rfl | rfl | rfl | rfl | rfl : c = 0 ∨ c = 1 ∨ c = 2 ∨ c = 3 ∨ c = 4 ∨ c = 5 := by omega
  · refine wp_iload_n k161_0 rfl rfl ?_
    refine wp_bipush 32 k161_1 (by decide) ?_
    refine wp_if_icmp_lt_T k161_3 (by decide) ?_
    refine wp_iconst 1 k161_10 (by decide) ?_
    refine wp_iload_n k161_11 rfl rfl ?_
    refine wp_ishl k161_12 ?_
    refine wp_iconst 1 k161_13 (by decide) ?_
    refine wp_isub k161_14 ?_
    exact wp_reti k161_15 rfl (by decide) rfl
  · refine wp_iload_n k161_0 rfl rfl ?_
    refine wp_bipush 32 k161_1 (by decide) ?_
    refine wp_if_icmp_lt_T k161_3 (by decide) ?_
    refine wp_iconst 1 k161_10 (by decide) ?_
    refine wp_iload_n k161_11 rfl rfl ?_
    refine wp_ishl k161_12 ?_
    refine wp_iconst 1 k161_13 (by decide) ?_
    refine wp_isub k161_14 ?_
    exact wp_reti k161_15 rfl (by decide) rfl
  · refine wp_iload_n k161_0 rfl rfl ?_
    refine wp_bipush 32 k161_1 (by decide) ?_
    refine wp_if_icmp_lt_T k161_3 (by decide) ?_
    refine wp_iconst 1 k161_10 (by decide) ?_
    refine wp_iload_n k161_11 rfl rfl ?_
    refine wp_ishl k161_12 ?_
    refine wp_iconst 1 k161_13 (by decide) ?_
    refine wp_isub k161_14 ?_
    exact wp_reti k161_15 rfl (by decide) rfl
  · refine wp_iload_n k161_0 rfl rfl ?_
    refine wp_bipush 32 k161_1 (by decide) ?_
    refine wp_if_icmp_lt_T k161_3 (by decide) ?_
    refine wp_iconst 1 k161_10 (by decide) ?_
    refine wp_iload_n k161_11 rfl rfl ?_
    refine wp_ishl k161_12 ?_
    refine wp_iconst 1 k161_13 (by decide) ?_
    refine wp_isub k161_14 ?_
    exact wp_reti k161_15 rfl (by decide) rfl
  · refine wp_iload_n k161_0 rfl rfl ?_
    refine wp_bipush 32 k161_1 (by decide) ?_
    refine wp_if_icmp_lt_T k161_3 (by decide) ?_
    refine wp_iconst 1 k161_10 (by decide) ?_
    refine wp_iload_n k161_11 rfl rfl ?_
    refine wp_ishl k161_12 ?_
    refine wp_iconst 1 k161_13 (by decide) ?_
    refine wp_isub k161_14 ?_
    exact wp_reti k161_15 rfl (by decide) rfl
  · refine wp_iload_n k161_0 rfl rfl ?_
    refine wp_bipush 32 k161_1 (by decide) ?_
    refine wp_if_icmp_lt_F k161_3 (by decide) ?_
    refine wp_iconst (-1) k161_6 (by decide) ?_
    refine wp_goto k161_7 ?_
    exact wp_reti k161_15 rfl (by decide) rfl
theorem s_readFacts {S : ww_S} {sh : List mm_C} {V : hV} {f : Nat → Int32} {l p q : Nat} (h : SRC sh V f l p 0) (hk : kDR sh) (hq : kScene sh q) (h100 : 100 ≤ q) (hc0 : V.1 (q + 1) 1 = Int32.ofNat 0) : EVQ S 8 3 [.ref 79, .ref q] (hH sh V) (fsP sh V f l q (fsM f l (V.1 (q + 2)) p)) := by
  have ho := h.o
  have fin : ∀ (L : mm_L) (t : nmS) (U : hV), mm_get L 1 = some (.ref q) → CNs sh U f l (q + 1) t → (∀ b, b ≠ 65 → b ≠ q + 1 → b ≠ q + 2 → U.1 b = V.1 b) → WP S 7 mm_m3 64 L [] (hH sh U) (fsP sh V f l q t) := by
    intro L t U hL hU hF
    obtain ⟨e, h1, h2, h3, h4, h5⟩ := hU
    refine wp_aload_n k3_64 hL rfl ?_
    refine wp_iconst 1 k3_65 (by decide) ?_
    refine wp_aload_n k3_66 hL rfl ?_
    refine wq_getR k3_67 hq.1 rfl ?_
    refine wp_getI k3_70 hq.2.1.1.h hq.2.1.1.o rfl _ h3 ?_
    refine wp_ishl k3_73 ?_
    refine wp_cs (st2 := [_]) k3_74 (s_allBelow h4) (by decide) rfl rfl rfl (by decide) ?_
    refine wp_putI k3_77 hq.1.h hq.1.o rfl rfl rfl ?_
    have gn : ∀ b, b ≠ q → (up U q 4 (wsN t.2.2.2)).1 b = U.1 b := fun b hb => funext fun j => up_ne _ _ (Or.inl hb)
    exact wp_retN k3_80 rfl ⟨_, rfl, rfl, ⟨e, h1.fr fun b b1 b2 => gn b (by omega), h2, (congrFun (gn _ (by omega)) 1).trans h3, h4, (gn _ (by omega)).trans h5⟩, up_eq _ _ _ _, fun k hk4 => (up_ne _ _ (Or.inr hk4)).trans (congrFun (hF q (by omega) (by omega) (by omega)) k), fun b b1 b2 b3 b4 => (gn b b2).trans (hF b b1 b3 b4)⟩
  have key : ∀ (g i : Nat) (t : nmS) (U : hV), g + i = 6 → CNs sh U f l (q + 1) t → (∀ b, b ≠ 65 → b ≠ q + 1 → b ≠ q + 2 → U.1 b = V.1 b) → WP S 7 mm_m3 22 [some (.ref 79), some (.ref q), some (.int (Int32.ofNat i))] [] (hH sh U) (fsP sh V f l q (fcM f l g t)) := by
    intro g
    induction g with
    | zero =>
      intro i t U hi hU hF
      refine wp_iload_n k3_22 rfl rfl ?_
      refine wp_iconst 5 k3_23 (by decide) ?_
      refine wp_if_icmp_gt_T k3_24 (i_lt (k := 5) (n := i) (by omega) (by omega)) ?_
      exact fin _ _ U rfl hU hF
    | succ g ih =>
      intro i t U hi hU hF
      obtain ⟨e, hS, he, hr⟩ := id hU
      unfold fcM
      refine wp_iload_n k3_22 rfl rfl ?_
      refine wp_iconst 5 k3_23 (by decide) ?_
      refine wp_if_icmp_gt_F k3_24 (i_nlt (k := 5) (n := i) (by omega) (by decide)) ?_
      refine wp_aload_n k3_27 rfl rfl ?_
      refine wq_getR k3_28 hk.1 rfl ?_
      refine wp_cv (st2 := []) k3_31 (s_isName hS) (by decide) rfl rfl rfl rfl (by decide) ho (by decide) ?_
      by_cases c1 : kdE f l t.1 = 256
      · rw [decide_eq_true c1]
        refine wp_if_eq_F k3_34 (by decide) ?_
        refine wp_aload_n k3_37 rfl rfl ?_
        refine wq_getR k3_38 hk.1 rfl ?_
        refine wp_cv (st2 := []) k3_41 (st_errN hU) (by decide) rfl rfl rfl rfl (by decide) ho (by decide) ?_
        cases c2 : t.2.1 with
        | true =>
          rw [if_neg (fun z => by cases z.2)]
          refine wp_if_ne_T k3_44 (by decide) ?_
          exact fin _ _ U rfl hU hF
        | false =>
          rw [if_pos ⟨c1, rfl⟩]
          refine wp_if_ne_F k3_44 rfl ?_
          obtain ⟨W, E, hFN, hW⟩ := s_tkN (S := S) hU hq.2.1 (by omega)
          refine wp_aload_n k3_47 rfl rfl ?_
          refine wq_getR k3_48 hk.1 rfl ?_
          refine wp_aload_n k3_51 rfl rfl ?_
          refine wq_getR k3_52 hq.1 rfl ?_
          refine wp_cvn (st2 := []) k3_55 E (by decide) rfl rfl rfl rfl (by decide) ho (by decide) ?_
          refine wp_iinc 1 (L1 := [_, _, _]) k3_58 rfl (by decide) rfl ?_
          refine wp_goto k3_61 ?_
          rw [i_succ]
          exact ih (i + 1) _ W (by omega) hW fun b b1 b2 b3 => (hFN b b1 b2 b3).trans (hF b b1 b2 b3)
      · rw [decide_eq_false c1, if_neg (fun z => c1 z.1)]
        refine wp_if_eq_T k3_34 rfl ?_
        exact fin _ _ U rfl hU hF
  obtain ⟨V1, E1, h1, hF1⟩ := s_takeWord (S := S) h XS22
  have hC1 : CNs sh V1 f l (q + 1) (if spB f l p 5 39132472205098390151768970679218299994214 = true then (nxE f l p, false, V.1 (q + 2), 0) else (p, true, V.1 (q + 2), 0)) := by
    by_cases c : spB f l p 5 39132472205098390151768970679218299994214 = true
    · rw [if_pos c] at h1 ⊢
      rw [if_pos c] at h1
      exact ⟨0, h1, ⟨fun _ => rfl, fun _ => rfl⟩, (congrFun (hF1 _ (by omega)) 1).trans hc0, Nat.zero_le _, hF1 _ (by omega)⟩
    · rw [if_neg c] at h1 ⊢
      rw [if_neg c] at h1
      exact ⟨_, h1, ⟨fun z => absurd z (by decide), fun z => (by cases z)⟩, (congrFun (hF1 _ (by omega)) 1).trans hc0, Nat.zero_le _, hF1 _ (by omega)⟩
  obtain ⟨V2, E2, hF2, hC2⟩ := s_tkN (S := S) hC1 hq.2.1 (by omega)
  refine ev_of P3 rfl ?_
  refine wp_aload_n k3_0 rfl rfl ?_
  refine wq_getR k3_1 hk.1 rfl ?_
  refine wp_ldcR k3_4 ?_
  refine wp_cvn (st2 := []) k3_6 E1 (by decide) rfl rfl rfl rfl (by decide) ho (by decide) ?_
  refine wp_aload_n k3_9 rfl rfl ?_
  refine wq_getR k3_10 hk.1 rfl ?_
  refine wp_aload_n k3_13 rfl rfl ?_
  refine wq_getR k3_14 hq.1 rfl ?_
  refine wp_cvn (st2 := []) k3_17 E2 (by decide) rfl rfl rfl rfl (by decide) ho (by decide) ?_
  refine wp_iconst 0 k3_20 (by decide) ?_
  refine wp_istore_n (L1 := [_, _, _]) k3_21 rfl rfl ?_
  exact key 6 0 _ V2 rfl hC2 fun b b1 b2 b3 => (hF2 b b1 b2 b3).trans (hF1 b b1)
theorem s_isAtEnd {S : ww_S} {sh : List mm_C} {V : hV} {f : Nat → Int32} {l p q cp : Nat} {e : Int32} (h : SRC sh V f l p e) (hk : kDR sh) (hq : kScene sh q) (hc : V.1 (q + 3) 1 = Int32.ofNat cp) (h5 : cp ≤ 5) : EV S 2 2 [.ref 79, .ref q] (hH sh V) (.inl (some (.int (bI (!decide (e = 0) || (decide (kdE f l p = 267) && decide (0 < cp))))))) (hH sh V) := by
  have ho := h.o
  refine ev_qe P2 rfl ?_
  refine wp_aload_n k2_0 rfl rfl ?_
  refine wq_getR k2_1 hk.1 rfl ?_
  refine wp_cv (st2 := []) k2_4 (s_hasError h) (by decide) rfl rfl rfl rfl (by decide) ho (by decide) ?_
  by_cases c0 : e = 0
  · rw [decide_eq_true c0]
    refine wp_if_ne_F k2_7 rfl ?_
    refine wp_aload_n k2_10 rfl rfl ?_
    refine wq_getR k2_11 hk.1 rfl ?_
    refine wp_getI k2_14 h.S.1.h ho rfl _ h.kd.1 ?_
    refine wp_sipush 267 k2_17 (by decide) ?_
    by_cases c1 : kdE f l p = 267
    · refine wp_if_icmp_ne_F k2_20 c1 ?_
      refine wp_aload_n k2_23 rfl rfl ?_
      refine wq_getR k2_24 hq.1 rfl ?_
      refine wp_getI k2_27 hq.2.2.1.1.h hq.2.2.1.1.o rfl _ hc ?_
      by_cases c2 : 0 < cp
      · refine wp_if_le_F k2_30 (i_lt (k := 0) (n := cp) c2 (by omega)) ?_
        refine wp_iconst 1 k2_33 (by decide) ?_
        refine wp_goto k2_34 ?_
        exact wp_retz k2_38 rfl (by rw [decide_eq_true c1, decide_eq_true c2]; rfl) rfl
      · refine wp_if_le_T k2_30 (i_nlt (k := 0) (n := cp) (by omega) (by omega)) ?_
        refine wp_iconst 0 k2_37 (by decide) ?_
        exact wp_retz k2_38 rfl (by rw [decide_eq_true c1, decide_eq_false c2]; rfl) rfl
    · refine wp_if_icmp_ne_T k2_20 c1 ?_
      refine wp_iconst 0 k2_37 (by decide) ?_
      exact wp_retz k2_38 rfl (by rw [decide_eq_false c1]; rfl) rfl
  · rw [decide_eq_false c0]
    refine wp_if_ne_T k2_7 (by decide) ?_
    refine wp_iconst 1 k2_33 (by decide) ?_
    refine wp_goto k2_34 ?_
    exact wp_retz k2_38 rfl rfl rfl
def loF (s : Int32) : Nat → Nat → Int32
  | 0, _ => -1
  | g + 1, i => if hasB s (Int32.ofNat i) = true then Int32.ofNat i else loF s g (i + 1)
theorem s_lowest {S : ww_S} {h : mm_H} {s : Int32} : EV S 2 162 [.int s] h (.inl (some (.int (loF s 32 0)))) h := by
  have key : ∀ (g i : Nat), g + i = 32 → WP S 1 mm_m162 2 [some (.int s), some (.int (Int32.ofNat i))] [] h (qe (.inl (some (.int (loF s g i)))) h) := by
    intro g
    induction g with
    | zero =>
      intro i hi
      refine wp_iload_n k162_2 rfl rfl ?_
      refine wp_bipush 32 k162_3 (by decide) ?_
      refine wp_if_icmp_ge_T k162_5 (i_nlt (k := i) (n := 32) (by omega) (by omega)) ?_
      refine wp_iconst (-1) k162_24 (by decide) ?_
      exact wp_reti k162_25 rfl rfl rfl
    | succ g ih =>
      intro i hi
      refine wp_iload_n k162_2 rfl rfl ?_
      refine wp_bipush 32 k162_3 (by decide) ?_
      refine wp_if_icmp_ge_F k162_5 (i_lt (k := i) (n := 32) (by omega) (by decide)) ?_
      refine wp_iload_n k162_8 rfl rfl ?_
      refine wp_iload_n k162_9 rfl rfl ?_
      refine wp_cs (st2 := []) k162_10 (s_isIn (by omega)) (by decide) rfl rfl rfl (by decide) ?_
      unfold loF
      cases c : hasB s (Int32.ofNat i) with
      | true =>
        rw [if_pos rfl]
        refine wp_if_eq_F k162_13 (by decide) ?_
        refine wp_iload_n k162_16 rfl rfl ?_
        exact wp_reti k162_17 rfl rfl rfl
      | false =>
        rw [if_neg (by decide)]
        refine wp_if_eq_T k162_13 rfl ?_
        refine wp_iinc 1 (L1 := [_, _]) k162_18 rfl (by decide) rfl ?_
        refine wp_goto k162_21 ?_
        rw [i_succ]
        exact ih (i + 1) (by omega)
  refine ev_qe P162 rfl ?_
  refine wp_iconst 0 k162_0 (by decide) ?_
  refine wp_istore_n (L1 := [_, _]) k162_1 rfl rfl ?_
  exact key 32 0 rfl
end N_q
