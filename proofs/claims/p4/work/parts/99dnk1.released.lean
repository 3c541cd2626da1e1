section N_k
/-! ===== the class, exactly: released, taken ===== -/
theorem take_some {α : Type} {ws : List α} {n i : Nat} {x : α} (h : (ws.take n)[i]? = some x) : ws[i]? = some x := by
  have hi := (List.getElem?_eq_some_iff.mp h).1
  have e := congrArg (fun z : List α => z[i]?) (List.take_append_drop n ws)
  rw [← e]
  show (ws.take n ++ ws.drop n)[i]? = some x
  rw [List.getElem?_append_left hi]
  exact h
def relP (sh : List mm_C) (V : hV) (a op nd : Nat) (r : hW × hW) : mm_V → mm_H → Prop := fun v g => ∃ W : hV, v = .inl none ∧ g = hH sh W ∧ FRS sh W r.1 op nd ∧ FOS sh W a r.2 ∧ ∀ b, b ≠ 76 → b ≠ a → b ≠ a + 1 → b ≠ a + 2 → W.1 b = V.1 b
theorem s_release {S : ww_S} {sh : List mm_C} {V : hV} {ws fo : hW} {op nd a : Nat} (h : FRS sh V ws op nd) (hf : FOS sh V a fo) (hl : ws.length ≤ 68) (hn : npF ws + fo.length ≤ 60) {s : Int32} (hs : ∀ x : Int32, x ≤ s → x ≤ 7) : EVQ S 3 24 [.ref 76, .int s, .ref a] (hH sh V) (relP sh V a op nd (relF s ws.length ws fo)) := by
  have hk := h.1
  have ha := hf.2.1
  have key : ∀ (n : Nat) (ws fo : hW) (U : hV), ws.length = n → FRS sh U ws op nd → FOS sh U a fo → n ≤ 68 → npF ws + fo.length ≤ 60 → (∀ b, b ≠ 76 → b ≠ a → b ≠ a + 1 → b ≠ a + 2 → U.1 b = V.1 b) → WP S 2 mm_m24 0 [some (.ref 76), some (.int s), some (.ref a)] [] (hH sh U) (relP sh V a op nd (relF s n ws fo)) := by
    intro n
    induction n with
    | zero =>
      intro ws fo U hw hU hfU h68 h60 hF
      refine wp_aload_n k24_0 rfl rfl ?_
      refine wp_getI k24_1 hk.1.h hk.1.o rfl (Int32.ofNat ws.length) hU.2.1 ?_
      refine wp_if_le_T k24_4 (by rw [hw]; decide) ?_
      exact wp_retN k24_63 rfl ⟨U, rfl, rfl, hU, hfU, hF⟩
    | succ n ih =>
      intro ws fo U hw hU hfU h68 h60 hF
      obtain ⟨x, hx⟩ : ∃ x, ws[n]? = some x := ⟨_, List.getElem?_eq_getElem (by omega)⟩
      obtain ⟨v1, v2⟩ := hU.2.2.2.2 n x hx
      have AT : ∀ (W : hV) (q : Nat), kR sh q 68 → EV S 1 156 [.ref q, .int (Int32.ofNat n)] (hH sh W) (.inl (some (.int (W.1 q n)))) (hH sh W) := by
        intro W q hq
        have E := s_at (S := S) (V := W) hq (by decide) (i := Int32.ofNat n)
        rw [at_in (by omega) (by decide)] at E
        exact E
      have E1 := AT U 77 hk.2.2.1.r
      rw [v1] at E1
      refine wp_aload_n k24_0 rfl rfl ?_
      refine wp_getI k24_1 hk.1.h hk.1.o rfl (Int32.ofNat ws.length) hU.2.1 ?_
      refine wp_if_le_F k24_4 (i_lt (k := 0) (n := ws.length) (by omega) (by omega)) ?_
      refine wp_aload_n k24_7 rfl rfl ?_
      refine wq_getR k24_8 hk.1 rfl ?_
      refine wp_aload_n k24_11 rfl rfl ?_
      refine wp_getI k24_12 hk.1.h hk.1.o rfl (Int32.ofNat (n + 1)) (by rw [← hw]; exact hU.2.1) ?_
      refine wp_iconst 1 k24_15 (by decide) ?_
      refine wp_isub k24_16 ?_
      refine wp_cast (i_pred (a := n + 1) (by omega)) ?_
      rw [Nat.add_sub_cancel]
      refine wp_cs (st2 := []) k24_17 E1 (by decide) rfl rfl rfl (by decide) ?_
      refine wp_iload_n k24_20 rfl rfl ?_
      unfold relF
      rw [hx]
      dsimp only
      by_cases c : s < x.1
      · rw [if_neg (Int32.not_le.mpr c)]
        refine wp_if_icmp_gt_T k24_21 c ?_
        exact wp_retN k24_63 rfl ⟨U, rfl, rfl, hU, hfU, hF⟩
      · have hxs : x.1 ≤ s := Int32.not_lt.mp c
        rw [if_pos hxs]
        have hnp := np_take hw hx (hs _ hxs)
        obtain ⟨U1, hU1⟩ : ∃ U1, up U 76 3 (Int32.ofNat n) = U1 := ⟨_, rfl⟩
        have g1 : ∀ b, b ≠ 76 → U1.1 b = U.1 b := fun b hb => by rw [← hU1]; exact funext fun j => up_ne _ _ (Or.inl hb)
        have g2 : ∀ k, k ≠ 3 → U1.1 76 k = U.1 76 k := fun k hk => by rw [← hU1]; exact up_ne _ _ (Or.inr hk)
        have g3 : U1.1 76 3 = Int32.ofNat n := by rw [← hU1]; exact up_eq _ _ _ _
        have hw2 : (ws.take n).length = n := by
          rw [List.length_take]
          omega
        have hR1 : FRS sh U1 (ws.take n) op nd := by
          refine ⟨hk, by rw [hw2]; exact g3, (g2 4 (by decide)).trans hU.2.2.1, (g2 5 (by decide)).trans hU.2.2.2.1, fun i y hy => ?_⟩
          obtain ⟨b1, b2⟩ := hU.2.2.2.2 i y (take_some hy)
          exact ⟨(congrFun (g1 77 (by decide)) i).trans b1, (congrFun (g1 78 (by decide)) i).trans b2⟩
        have hF1 : FOS sh U1 a fo := hfU.fr fun b b1 b2 => g1 b (by omega)
        obtain ⟨U2, E2, hF2, hfr⟩ := s_fadd (S := S) hF1 (by omega) (x := x.1) (y := x.2)
        have E3 := AT U1 77 hk.2.2.1.r
        have E4 := AT U1 78 hk.2.2.2.r
        rw [g1 77 (by decide), v1] at E3
        rw [g1 78 (by decide), v2] at E4
        refine wp_if_icmp_gt_F k24_21 c ?_
        refine wp_aload_n k24_24 rfl rfl ?_
        refine wp_dup k24_25 rfl ?_
        refine wp_getI k24_26 hk.1.h hk.1.o rfl (Int32.ofNat (n + 1)) (by rw [← hw]; exact hU.2.1) ?_
        refine wp_iconst 1 k24_29 (by decide) ?_
        refine wp_isub k24_30 ?_
        refine wp_cast (i_pred (a := n + 1) (by omega)) ?_
        rw [Nat.add_sub_cancel]
        refine wp_putI k24_31 hk.1.h hk.1.o rfl rfl rfl ?_
        rw [hU1]
        refine wp_aload_n k24_34 rfl rfl ?_
        refine wp_aload_n k24_35 rfl rfl ?_
        refine wq_getR k24_36 hk.1 rfl ?_
        refine wp_aload_n k24_39 rfl rfl ?_
        refine wp_getI k24_40 hk.1.h hk.1.o rfl _ g3 ?_
        refine wp_cs (st2 := [_]) k24_43 E3 (by decide) rfl rfl rfl (by decide) ?_
        refine wp_aload_n k24_46 rfl rfl ?_
        refine wq_getR k24_47 hk.1 rfl ?_
        refine wp_aload_n k24_50 rfl rfl ?_
        refine wp_getI k24_51 hk.1.h hk.1.o rfl _ g3 ?_
        refine wp_cs (st2 := [_, _]) k24_54 E4 (by decide) rfl rfl rfl (by decide) ?_
        refine wp_cvn (st2 := []) k24_57 E2 (by decide) rfl rfl rfl rfl hf.1.1.h hf.1.1.o (by decide) ?_
        refine wp_goto k24_60 ?_
        refine ih (ws.take n) (fo ++ [x]) U2 hw2 (hR1.fr fun b b1 b2 => hfr b (by omega) (by omega) (by omega)) hF2 (by omega) ?_ ?_
        · rw [List.length_append, List.length_singleton]
          omega
        · exact fun b b1 b2 b3 b4 => (hfr b b2 b3 b4).trans ((g1 b b1).trans (hF b b1 b2 b3 b4))
  exact ev_of P24 rfl (key ws.length ws fo V rfl h hf hl hn (fun b _ _ _ _ => rfl))
theorem s_takeNode {S : ww_S} {sh : List mm_C} {V : hV} {f : Nat → Int32} {l p : Nat} {e : Int32} (h : SRC sh V f l p e) {ws : hW} {op nd : Nat} (hr : FRS sh V ws op nd) (hn : nd ≤ 60) : ∃ W, EV S 3 22 [.ref 76] (hH sh V) (.inl (some (.int (bI (decide (nd < 60)))))) (hH sh W) ∧ SRC sh W f l (if nd < 60 then nxE f l p else p) (if nd < 60 then e else erN e 3) ∧ FRS sh W ws op (if nd < 60 then nd + 1 else nd) ∧ ∀ b, b ≠ 65 → b ≠ 76 → W.1 b = V.1 b := by
  have hk := hr.1
  by_cases c : nd < 60
  · obtain ⟨U, hU⟩ : ∃ U, up V 76 5 (Int32.ofNat (nd + 1)) = U := ⟨_, rfl⟩
    have g1 : ∀ b, b ≠ 76 → U.1 b = V.1 b := fun b hb => by rw [← hU]; exact funext fun j => up_ne _ _ (Or.inl hb)
    have g2 : ∀ k, k ≠ 5 → U.1 76 k = V.1 76 k := fun k hk => by rw [← hU]; exact up_ne _ _ (Or.inr hk)
    have g3 : U.1 76 5 = Int32.ofNat (nd + 1) := by rw [← hU]; exact up_eq _ _ _ _
    have hS : SRC sh U f l p e := h.fr fun b b1 b2 => g1 b (by omega)
    have hR : FRS sh U ws op (nd + 1) := by
      refine ⟨hk, (g2 3 (by decide)).trans hr.2.1, (g2 4 (by decide)).trans hr.2.2.1, g3, fun i y hy => ?_⟩
      obtain ⟨b1, b2⟩ := hr.2.2.2.2 i y hy
      exact ⟨(congrFun (g1 77 (by decide)) i).trans b1, (congrFun (g1 78 (by decide)) i).trans b2⟩
    obtain ⟨W, E, h2, h3⟩ := s_advance (S := S) hS
    refine ⟨W, ?_, by rw [if_pos c, if_pos c]; exact h2, by rw [if_pos c]; exact hR.fr fun b b1 b2 => h3 b (by omega), fun b b1 b2 => (h3 b b1).trans (g1 b b2)⟩
    refine ev_qe P22 rfl ?_
    refine wp_aload_n k22_0 rfl rfl ?_
    refine wp_getI k22_1 hk.1.h hk.1.o rfl _ hr.2.2.2.1 ?_
    refine wp_bipush 60 k22_4 (by decide) ?_
    refine wp_if_icmp_lt_T k22_6 (i_lt (k := nd) (n := 60) c (by decide)) ?_
    refine wp_aload_n k22_26 rfl rfl ?_
    refine wp_dup k22_27 rfl ?_
    refine wp_getI k22_28 hk.1.h hk.1.o rfl _ hr.2.2.2.1 ?_
    refine wp_iconst 1 k22_31 (by decide) ?_
    refine wp_iadd k22_32 ?_
    refine wp_cast (i_succ nd) ?_
    refine wp_putI k22_33 hk.1.h hk.1.o rfl rfl rfl ?_
    rw [hU]
    refine wp_aload_n k22_36 rfl rfl ?_
    refine wq_getR k22_37 hk.1 rfl ?_
    refine wp_cvn (st2 := []) k22_40 E (by decide) rfl rfl rfl rfl (by decide) h.o (by decide) ?_
    refine wp_iconst 1 k22_43 (by decide) ?_
    exact wp_retz k22_44 rfl (by rw [decide_eq_true c]; rfl) rfl
  · obtain ⟨W, E, h2, h3⟩ := s_fail (S := S) h (c := 3) (x := Int32.ofNat p)
    refine ⟨W, ?_, by rw [if_neg c, if_neg c]; exact h2, by rw [if_neg c]; exact hr.fr fun b b1 b2 => h3 b (by omega), fun b b1 _ => h3 b b1⟩
    refine ev_qe P22 rfl ?_
    refine wp_aload_n k22_0 rfl rfl ?_
    refine wp_getI k22_1 hk.1.h hk.1.o rfl _ hr.2.2.2.1 ?_
    refine wp_bipush 60 k22_4 (by decide) ?_
    refine wp_if_icmp_lt_F k22_6 (i_nlt (k := nd) (n := 60) (by omega) (by omega)) ?_
    refine wp_aload_n k22_9 rfl rfl ?_
    refine wq_getR k22_10 hk.1 rfl ?_
    refine wp_iconst 3 k22_13 (by decide) ?_
    refine wp_aload_n k22_14 rfl rfl ?_
    refine wq_getR k22_15 hk.1 rfl ?_
    refine wp_getI k22_18 h.S.1.h h.o rfl _ h.kd.2.1 ?_
    refine wp_cvn (st2 := []) k22_21 E (by decide) rfl rfl rfl rfl (by decide) h.o (by decide) ?_
    refine wp_iconst 0 k22_24 (by decide) ?_
    exact wp_retz k22_25 rfl (by rw [decide_eq_false c]; rfl) rfl
end N_k
