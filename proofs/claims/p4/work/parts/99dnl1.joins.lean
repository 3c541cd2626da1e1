section N_l
/-! ===== the class, exactly: parentheses, joins ===== -/
theorem frs_4 {sh : List mm_C} {V : hV} {ws : hW} {op nd q : Nat} (h : FRS sh V ws op nd) : FRS sh (up V 76 4 (Int32.ofNat q)) ws q nd := by
  obtain ⟨h1, h2, h3, h4, h5⟩ := h
  refine ⟨h1, (up_ne _ _ (Or.inr (by decide))).trans h2, up_eq _ _ _ _, (up_ne _ _ (Or.inr (by decide))).trans h4, fun i x hx => ?_⟩
  obtain ⟨a1, a2⟩ := h5 i x hx
  exact ⟨(up_ne _ _ (Or.inl (by decide))).trans a1, (up_ne _ _ (Or.inl (by decide))).trans a2⟩
theorem frs_3 {sh : List mm_C} {V : hV} {ws : hW} {op nd q : Nat} (h : FRS sh V ws op nd) (hq : q ≤ ws.length) : FRS sh (up V 76 3 (Int32.ofNat q)) (ws.take q) op nd := by
  obtain ⟨h1, h2, h3, h4, h5⟩ := h
  refine ⟨h1, ?_, (up_ne _ _ (Or.inr (by decide))).trans h3, (up_ne _ _ (Or.inr (by decide))).trans h4, fun i x hx => ?_⟩
  · rw [List.length_take, Nat.min_eq_left hq]
    exact up_eq _ _ _ _
  · obtain ⟨a1, a2⟩ := h5 i x (take_some hx)
    exact ⟨(up_ne _ _ (Or.inl (by decide))).trans a1, (up_ne _ _ (Or.inl (by decide))).trans a2⟩
theorem s_readOpen {S : ww_S} {sh : List mm_C} {V : hV} {f : Nat → Int32} {l p : Nat} {e : Int32} (h : SRC sh V f l p e) {ws : hW} {op nd : Nat} (hr : FRS sh V ws op nd) (ho : op ≤ 8) (hw : op < 8 → ws.length < 68) : ∃ W, EV S 3 19 [.ref 76] (hH sh V) (.inl none) (hH sh W) ∧ SRC sh W f l (if op < 8 then nxE f l p else p) (if op < 8 then e else erN e 1) ∧ FRS sh W (if op < 8 then ws ++ [(8, 0)] else ws) (if op < 8 then op + 1 else op) nd ∧ ∀ b, b ≠ 65 → b ≠ 76 → b ≠ 77 → b ≠ 78 → W.1 b = V.1 b := by
  have hk := hr.1
  by_cases c : op < 8
  · obtain ⟨U, hU⟩ : ∃ U, up V 76 4 (Int32.ofNat (op + 1)) = U := ⟨_, rfl⟩
    have g1 : ∀ b, b ≠ 76 → U.1 b = V.1 b := fun b hb => by rw [← hU]; exact funext fun j => up_ne _ _ (Or.inl hb)
    have hR : FRS sh U ws (op + 1) nd := by rw [← hU]; exact frs_4 hr
    obtain ⟨U2, E2, hR2, g2⟩ := s_hold (S := S) hR (hw c) (s := 8) (n := 0)
    have hS : SRC sh U2 f l p e := h.fr fun b b1 b2 => (g2 b (by omega) (by omega) (by omega)).trans (g1 b (by omega))
    obtain ⟨W, E, h2, h3⟩ := s_advance (S := S) hS
    refine ⟨W, ?_, by rw [if_pos c, if_pos c]; exact h2, by rw [if_pos c, if_pos c]; exact hR2.fr fun b b1 b2 => h3 b (by omega), fun b b1 b2 b3 b4 => (h3 b b1).trans ((g2 b b2 b3 b4).trans (g1 b b2))⟩
    refine ev_qe P19 rfl ?_
    refine wp_aload_n k19_0 rfl rfl ?_
    refine wp_getI k19_1 hk.1.h hk.1.o rfl _ hr.2.2.1 ?_
    refine wp_bipush 8 k19_4 (by decide) ?_
    refine wp_if_icmp_lt_T k19_6 (i_lt (k := op) (n := 8) c (by decide)) ?_
    refine wp_aload_n k19_27 rfl rfl ?_
    refine wp_dup k19_28 rfl ?_
    refine wp_getI k19_29 hk.1.h hk.1.o rfl _ hr.2.2.1 ?_
    refine wp_iconst 1 k19_32 (by decide) ?_
    refine wp_iadd k19_33 ?_
    refine wp_cast (i_succ op) ?_
    refine wp_putI k19_34 hk.1.h hk.1.o rfl rfl rfl ?_
    rw [hU]
    refine wp_aload_n k19_37 rfl rfl ?_
    refine wp_bipush 8 k19_38 (by decide) ?_
    refine wp_iconst 0 k19_40 (by decide) ?_
    refine wp_cvn (st2 := []) k19_41 E2 (by decide) rfl rfl rfl rfl (by decide) hk.1.o (by decide) ?_
    refine wp_aload_n k19_44 rfl rfl ?_
    refine wq_getR k19_45 hk.1 rfl ?_
    refine wp_cvn (st2 := []) k19_48 E (by decide) rfl rfl rfl rfl (by decide) h.o (by decide) ?_
    exact wp_retn k19_51 rfl rfl
  · obtain ⟨W, E, h2, h3⟩ := s_fail (S := S) h (c := 1) (x := Int32.ofNat p)
    refine ⟨W, ?_, by rw [if_neg c, if_neg c]; exact h2, by rw [if_neg c, if_neg c]; exact hr.fr fun b b1 b2 => h3 b (by omega), fun b b1 _ _ _ => h3 b b1⟩
    refine ev_qe P19 rfl ?_
    refine wp_aload_n k19_0 rfl rfl ?_
    refine wp_getI k19_1 hk.1.h hk.1.o rfl _ hr.2.2.1 ?_
    refine wp_bipush 8 k19_4 (by decide) ?_
    refine wp_if_icmp_lt_F k19_6 (i_nlt (k := op) (n := 8) (by omega) (by omega)) ?_
    refine wp_aload_n k19_9 rfl rfl ?_
    refine wq_getR k19_10 hk.1 rfl ?_
    refine wp_iconst 1 k19_13 (by decide) ?_
    refine wp_aload_n k19_14 rfl rfl ?_
    refine wq_getR k19_15 hk.1 rfl ?_
    refine wp_getI k19_18 h.S.1.h h.o rfl _ h.kd.2.1 ?_
    refine wp_cvn (st2 := []) k19_21 E (by decide) rfl rfl rfl rfl (by decide) h.o (by decide) ?_
    refine wp_goto k19_24 ?_
    exact wp_retn k19_51 rfl rfl
def rdP (sh : List mm_C) (V : hV) (f : Nat → Int32) (l a p2 op nd : Nat) (er : Bool) (ws fo : hW) : mm_V → mm_H → Prop := fun v g => ∃ (W : hV) (e : Int32), v = .inl none ∧ g = hH sh W ∧ SRC sh W f l p2 e ∧ (e = 0 ↔ er = false) ∧ FRS sh W ws op nd ∧ FOS sh W a fo ∧ ∀ b, b ≠ 65 → b ≠ 76 → b ≠ 77 → b ≠ 78 → b ≠ a → b ≠ a + 1 → b ≠ a + 2 → W.1 b = V.1 b
theorem s_readJoin {S : ww_S} {sh : List mm_C} {V : hV} {f : Nat → Int32} {l p : Nat} (h : SRC sh V f l p 0) {ws fo : hW} {op nd a : Nat} (hr : FRS sh V ws op nd) (hf : FOS sh V a fo) (hn : nd ≤ 60) (hl : ws.length ≤ 68) (hp : npF ws + fo.length ≤ nd) (hw : nd < 60 → ∀ s : Int32, (relF s ws.length ws fo).1.length < 68) (hs : ∀ x : Int32, x ≤ kdE f l p - 256 → x ≤ 7) : EVQ S 4 20 [.ref 76, .ref a] (hH sh V) (rdP sh V f l a (if nd < 60 then nxE f l p else p) op (if nd < 60 then nd + 1 else nd) (!decide (nd < 60)) (if nd < 60 then (relF (kdE f l p - 256) ws.length ws fo).1 ++ [(kdE f l p - 256, 0)] else ws) (if nd < 60 then (relF (kdE f l p - 256) ws.length ws fo).2 else fo)) := by
  have hk := hr.1
  have ha := hf.2.1
  obtain ⟨U, E, h2, h3, h4⟩ := s_takeNode (S := S) h hr hn
  refine ev_of P20 rfl ?_
  refine wp_aload_n k20_0 rfl rfl ?_
  refine wq_getR k20_1 hk.1 rfl ?_
  refine wp_getI k20_4 h.S.1.h h.o rfl _ h.kd.1 ?_
  refine wp_sipush 256 k20_7 (by decide) ?_
  refine wp_isub k20_10 ?_
  refine wp_istore_n (L1 := [_, _, _]) k20_11 rfl rfl ?_
  refine wp_aload_n k20_12 rfl rfl ?_
  refine wp_cv (st2 := []) k20_13 E (by decide) rfl rfl rfl rfl (by decide) hk.1.o (by decide) ?_
  by_cases c : nd < 60
  · rw [if_pos c, if_pos c] at h2
    rw [if_pos c] at h3
    rw [decide_eq_true c, if_pos c, if_pos c, if_pos c, if_pos c]
    have hfU : FOS sh U a fo := hf.fr fun b b1 b2 => h4 b (by omega) (by omega)
    obtain ⟨v, g, ER, W, e1, e2, hW, hfW, hfr⟩ := s_release (S := S) h3 hfU hl (by omega) hs
    subst e1 e2
    obtain ⟨W2, EH, hW2, hfr2⟩ := s_hold (S := S) hW (hw c _) (s := kdE f l p - 256) (n := 0)
    refine wp_if_eq_F k20_16 (by decide) ?_
    refine wp_aload_n k20_19 rfl rfl ?_
    refine wp_iload_n k20_20 rfl rfl ?_
    refine wp_aload_n k20_21 rfl rfl ?_
    refine wp_cvn (st2 := []) k20_22 ER (by decide) rfl rfl rfl rfl (by decide) hk.1.o (by decide) ?_
    refine wp_aload_n k20_25 rfl rfl ?_
    refine wp_iload_n k20_26 rfl rfl ?_
    refine wp_iconst 0 k20_27 (by decide) ?_
    refine wp_cvn (st2 := []) k20_28 EH (by decide) rfl rfl rfl rfl (by decide) hk.1.o (by decide) ?_
    refine wp_retN k20_31 rfl ⟨W2, 0, rfl, rfl, ?_, ⟨fun _ => rfl, fun _ => rfl⟩, hW2, hfW.fr fun b b1 b2 => hfr2 b (by omega) (by omega) (by omega), fun b b1 b2 b3 b4 b5 b6 b7 => (hfr2 b b2 b3 b4).trans ((hfr b b2 b5 b6 b7).trans (h4 b b1 b2))⟩
    exact h2.fr fun b b1 b2 => (hfr2 b (by omega) (by omega) (by omega)).trans (hfr b (by omega) (by omega) (by omega) (by omega))
  · rw [if_neg c, if_neg c] at h2
    rw [if_neg c] at h3
    rw [decide_eq_false c, if_neg c, if_neg c, if_neg c, if_neg c]
    refine wp_if_eq_T k20_16 rfl ?_
    exact wp_retN k20_31 rfl ⟨U, erN 0 3, rfl, rfl, h2, ⟨fun z => absurd z (by decide), fun z => (by cases z)⟩, h3, hf.fr fun b b1 b2 => h4 b (by omega) (by omega), fun b b1 b2 _ _ _ _ _ => h4 b b1 b2⟩
theorem s_readClose {S : ww_S} {sh : List mm_C} {V : hV} {f : Nat → Int32} {l p : Nat} (h : SRC sh V f l p 0) {ws fo : hW} {op nd a : Nat} (hr : FRS sh V ws op nd) (hf : FOS sh V a fo) (hn : nd ≤ 60) (hl : ws.length ≤ 68) (hp : npF ws + fo.length ≤ nd) (ho : 1 ≤ op ∧ op ≤ 8) (hw : 1 ≤ (relF 7 ws.length ws fo).1.length ∧ (relF 7 ws.length ws fo).1.length ≤ 68) : EVQ S 4 21 [.ref 76, .ref a] (hH sh V) (rdP sh V f l a (if kdE f l p = 41 then nxE f l p else p) (if kdE f l p = 41 then op - 1 else op) nd (!decide (kdE f l p = 41)) (if kdE f l p = 41 then (relF 7 ws.length ws fo).1.take ((relF 7 ws.length ws fo).1.length - 1) else ws) (if kdE f l p = 41 then (relF 7 ws.length ws fo).2 else fo)) := by
  have hk := hr.1
  have ha := hf.2.1
  obtain ⟨U, E, h2, h3⟩ := s_take (S := S) h (c := 41)
  have hrU : FRS sh U ws op nd := hr.fr fun b b1 b2 => h3 b (by omega)
  have hfU : FOS sh U a fo := hf.fr fun b b1 b2 => h3 b (by omega)
  refine ev_of P21 rfl ?_
  refine wp_aload_n k21_0 rfl rfl ?_
  refine wq_getR k21_1 hk.1 rfl ?_
  refine wp_bipush 41 k21_4 (by decide) ?_
  refine wp_cv (st2 := []) k21_6 E (by decide) rfl rfl rfl rfl (by decide) h.o (by decide) ?_
  by_cases c : kdE f l p = 41
  · rw [if_pos c, if_pos c] at h2
    rw [decide_eq_true c, if_pos c, if_pos c, if_pos c, if_pos c]
    obtain ⟨v, g, ER, W, e1, e2, hW, hfW, hfr⟩ := s_release (S := S) hrU hfU hl (by omega) (s := 7) (fun x hx => hx)
    subst e1 e2
    obtain ⟨ws2, hws2⟩ : ∃ z, (relF 7 ws.length ws fo).1 = z := ⟨_, rfl⟩
    rw [hws2] at hW hw ⊢
    have hR3 := frs_3 (q := ws2.length - 1) hW (by omega)
    have hR4 := frs_4 (q := op - 1) hR3
    refine wp_if_eq_F k21_9 (by decide) ?_
    refine wp_aload_n k21_12 rfl rfl ?_
    refine wp_bipush 7 k21_13 (by decide) ?_
    refine wp_aload_n k21_15 rfl rfl ?_
    refine wp_cvn (st2 := []) k21_16 ER (by decide) rfl rfl rfl rfl (by decide) hk.1.o (by decide) ?_
    refine wp_aload_n k21_19 rfl rfl ?_
    refine wp_dup k21_20 rfl ?_
    refine wp_getI k21_21 hk.1.h hk.1.o rfl _ hW.2.1 ?_
    refine wp_iconst 1 k21_24 (by decide) ?_
    refine wp_isub k21_25 ?_
    refine wp_cast (i_pred hw.1) ?_
    refine wp_putI k21_26 hk.1.h hk.1.o rfl rfl rfl ?_
    refine wp_aload_n k21_29 rfl rfl ?_
    refine wp_dup k21_30 rfl ?_
    refine wp_getI k21_31 hk.1.h hk.1.o rfl _ hR3.2.2.1 ?_
    refine wp_iconst 1 k21_34 (by decide) ?_
    refine wp_isub k21_35 ?_
    refine wp_cast (i_pred ho.1) ?_
    refine wp_putI k21_36 hk.1.h hk.1.o rfl rfl rfl ?_
    have gn : ∀ b, b ≠ 76 → (up (up W 76 3 (Int32.ofNat (ws2.length - 1))) 76 4 (Int32.ofNat (op - 1))).1 b = W.1 b := fun b hb => (funext fun j => up_ne _ _ (Or.inl hb)).trans (funext fun j => up_ne _ _ (Or.inl hb))
    refine wp_retN k21_39 rfl ⟨_, 0, rfl, rfl, ?_, ⟨fun _ => rfl, fun _ => rfl⟩, hR4, hfW.fr fun b b1 b2 => gn b (by omega), fun b b1 b2 b3 b4 b5 b6 b7 => (gn b b2).trans ((hfr b b2 b5 b6 b7).trans (h3 b b1))⟩
    exact h2.fr fun b b1 b2 => (gn b (by omega)).trans (hfr b (by omega) (by omega) (by omega) (by omega))
  · rw [if_neg c, if_neg c] at h2
    rw [decide_eq_false c, if_neg c, if_neg c, if_neg c, if_neg c]
    refine wp_if_eq_T k21_9 rfl ?_
    exact wp_retN k21_39 rfl ⟨U, erN 0 1, rfl, rfl, h2, ⟨fun z => absurd z (by decide), fun z => (by cases z)⟩, hrU, hfU, fun b b1 _ _ _ _ _ _ => h3 b b1⟩
end N_l
