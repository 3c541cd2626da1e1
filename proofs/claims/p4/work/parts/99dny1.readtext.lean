section N_y
/-! ===== the class, exactly: readText ===== -/
theorem s_finish {S : ww_S} {sh : List mm_C} {V : hV} {f : Nat → Int32} {l p : Nat} {e : Int32} (h : SRC sh V f l p e) : EV S 1 66 [.ref 65] (hH sh V) (.inl (some (.int (bI (decide (e = 0)))))) (hH sh (up V 65 4 0)) := by
  refine ev_qe P66 rfl ?_
  refine wp_aload_n k66_0 rfl rfl ?_
  refine wp_iconst 0 k66_1 (by decide) ?_
  refine wp_putI k66_2 h.S.1.h h.o rfl rfl rfl ?_
  refine wp_aload_n k66_5 rfl rfl ?_
  refine wp_getI k66_6 h.S.1.h h.o rfl e ((up_ne _ _ (Or.inr (by decide))).trans h.kd.2.2.2) ?_
  by_cases c : e = 0
  · rw [decide_eq_true c]
    refine wp_if_ne_F k66_9 c ?_
    refine wp_iconst 1 k66_12 (by decide) ?_
    refine wp_goto k66_13 ?_
    exact wp_retz k66_17 rfl rfl rfl
  · rw [decide_eq_false c]
    refine wp_if_ne_T k66_9 c ?_
    refine wp_iconst 0 k66_16 (by decide) ?_
    exact wp_retz k66_17 rfl rfl rfl
/-- what readText leaves behind when it read a description -/
def RTX (sh s : List mm_C) (V W : hV) (q : Nat) (Gf : Nat → Int32) (cf : Nat) (t : dS) : Prop := s = (sh ++ scL q).set (191 - 64) (stC 191 q) ∧ STB s W 191 t.2.2.1 t.2.2.2.1 t.2.2.2.2.2.1 ∧ SCX W q Gf cf t.2.1 t.2.2.1 t.2.2.2.1 t.2.2.2.2.1 t.2.2.2.2.2.1 (if t.2.2.2.2.2.2 = -1 then loF t.2.2.2.2.2.1 32 0 else t.2.2.2.2.2.2) ∧ W.1 65 4 = 0 ∧ W.1 64 12 = 0 ∧ W.1 64 13 = 0 ∧ ∀ b, 79 ≤ b → b < 191 ∨ 202 < b → b < q → W.1 b = V.1 b
def rxP (sh : List mm_C) (V : hV) (f : Nat → Int32) (l : Nat) : mm_V → mm_H → Prop := fun v g => (dsA f l = none ∧ v = .inr 15) ∨ ∃ t, dsA f l = some t ∧ v = .inl (some (.int (bcF t.2.2.2.2.2.1))) ∧ ∃ (s : List mm_C) (W : hV), g = hH s W ∧ RTX sh s V W (64 + sh.length) (fsM f l z0 (sk f l 0)).2.2.1 (fsM f l z0 (sk f l 0)).2.2.2 t
theorem s_readText {S : ww_S} {sh : List mm_C} {V : hV} {f : Nat → Int32} {l : Nat} (h : SoT sh V f l) (hl : 260 ≤ sh.length) (hW : WI sh) (hB : SBok sh V) (hwf : WFR f l) : EVQ S 10 100 [.ref 64] (hH sh V) (rxP sh V f l) := by
  obtain ⟨q0, k0⟩ := hW.who
  have ex := sc_ex sh (scL (64 + sh.length))
  have hsc := (sc_fx hl hW hB).1
  have hWI := (sc_fx hl hW hB).2.2.2.2.1 hW
  obtain ⟨q1, k1⟩ := hWI.who
  obtain ⟨u, g, E1, W, e1, e2, hfr, hM⟩ := s_readD (S := S) h k0.2.1 hl hW hB hwf
  subst e1 e2
  obtain ⟨q, hqq⟩ : ∃ q, 64 + sh.length = q := ⟨_, rfl⟩
  rw [hqq] at E1 hsc hWI k1 hfr hM
  refine ev_of P100 rfl ?_
  refine wp_aload_n k100_0 rfl rfl ?_
  refine wq_getR k100_1 k0.1 rfl ?_
  refine wp_cv (st2 := []) k100_4 E1 (by decide) rfl rfl rfl rfl (by decide) k0.2.1.1.o (by decide) ?_
  refine wp_astore_n (L1 := [_, _]) k100_7 rfl rfl ?_
  refine wp_aload_n k100_8 rfl rfl ?_
  refine wq_getR k100_9 k1.1 rfl ?_
  unfold rxP
  rw [hqq]
  cases hD : dsA f l with
  | none =>
    rw [hD] at hM
    obtain ⟨p, e, hS, he⟩ := hM
    have hne : ¬ e = 0 := fun z => by cases he.mp z
    have E2 := s_finish (S := S) hS
    rw [decide_eq_false hne] at E2
    refine wp_cv (st2 := []) k100_12 E2 (by decide) rfl rfl rfl rfl (by decide) hS.o (by decide) ?_
    refine wp_if_ne_F k100_15 rfl ?_
    exact wp_thr k100_18 rfl rfl (Or.inl ⟨rfl, rfl⟩)
  | some t =>
    rw [hD] at hM
    obtain ⟨hS, hX⟩ := hM
    have E2 := s_finish (S := S) hS
    rw [decide_eq_true rfl] at E2
    refine wp_cv (st2 := []) k100_12 E2 (by decide) rfl rfl rfl rfl (by decide) hS.o (by decide) ?_
    refine wp_if_ne_T k100_15 (by decide) ?_
    have gn : ∀ b, b ≠ 65 → (up W 65 4 0).1 b = W.1 b := fun b hb => funext fun j => up_ne _ _ (Or.inl hb)
    have hX2 := hX.fr (W := up W 65 4 0) fun b b1 _ => gn b (by omega)
    obtain ⟨u, g, E3, W3, e1, e2, hst, hf3⟩ := s_stBegin (S := S) k1.2.2.2.2 hsc (by decide) (by omega) hX2
    subst e1 e2
    have st := st_new k1.2.2.2.2 hsc
    have k64 : kO ((sh ++ scL q).set (191 - 64) (stC 191 q)) 64 13 [.ref 65, .ref 76, .ref 79, .ref 80, .ref 72, .ref 70, .ref 182, .ref 183, .ref 191, .ref 203, .ref 215, .int 0, .int 0, .int 0] := k1.1.ex (ex_set k1.2.2.2.2) rfl rfl
    refine wp_aload_n k100_26 rfl rfl ?_
    refine wq_getR k100_27 k1.1 rfl ?_
    refine wp_aload_n k100_30 rfl rfl ?_
    refine wp_cvn (st2 := []) k100_31 E3 (by decide) rfl rfl rfl rfl (by decide) k1.2.2.2.2.1.o (by decide) ?_
    obtain ⟨s, hs⟩ : ∃ s, (sh ++ scL q).set (191 - 64) (stC 191 q) = s := ⟨_, rfl⟩
    rw [hs] at st k64 hst ⊢
    have E4 : EV S 1 151 [.ref 64] (hH s W3) (.inl none) (hH s (up (up W3 64 12 0) 64 13 0)) := by
      refine ev_qe P151 rfl ?_
      refine wp_aload_n k151_0 rfl rfl ?_
      refine wp_iconst 0 k151_1 (by decide) ?_
      refine wp_putI k151_2 k64.h k64.o rfl rfl rfl ?_
      refine wp_aload_n k151_5 rfl rfl ?_
      refine wp_iconst 0 k151_6 (by decide) ?_
      refine wp_putI k151_7 k64.h k64.o rfl rfl rfl ?_
      exact wp_retn k151_10 rfl rfl
    obtain ⟨W4, hW4⟩ : ∃ W4, up (up W3 64 12 0) 64 13 0 = W4 := ⟨_, rfl⟩
    rw [hW4] at E4
    have g4 : ∀ b, b ≠ 64 → W4.1 b = W3.1 b := fun b hb => by
      rw [← hW4]
      exact (funext fun j => up_ne _ _ (Or.inl hb)).trans (funext fun j => up_ne _ _ (Or.inl hb))
    obtain ⟨t1, t2, t3, t4, t5, t6⟩ := hst
    refine wp_aload_n k100_34 rfl rfl ?_
    refine wp_cvn (st2 := []) k100_35 E4 (by decide) rfl rfl rfl rfl (by decide) k64.o (by decide) ?_
    refine wp_aload_n k100_38 rfl rfl ?_
    refine wq_getR k100_39 k64 rfl ?_
    refine wq_getR k100_42 st.1 rfl ?_
    refine wp_cv (st2 := []) k100_45 (s_leftCount st.2.1 ((congrFun (g4 192 (by decide)) 1).trans t1)) (by decide) rfl rfl rfl rfl st.2.1.1.h st.2.1.1.o (by decide) ?_
    refine wp_retI k100_48 rfl (Or.inr ⟨t, rfl, rfl, s, W4, rfl, hs.symm, ⟨(congrFun (g4 192 (by decide)) 1).trans t1, (congrFun (g4 192 (by decide)) 2).trans t2, by rw [g4 193 (by decide)]; exact t3, t4.fr fun c c1 c2 => g4 c (by omega), (congrFun (g4 198 (by decide)) 4).trans t5, fun j hj => (congrFun (g4 202 (by decide)) j).trans (t6 j hj)⟩, hX2.fr fun b b1 b2 => (g4 b (by omega)).trans (hf3 b (Or.inr (by omega))), ?_, ?_, ?_, fun b b1 b2 b3 => (g4 b (by omega)).trans ((hf3 b (by omega)).trans ((gn b (by omega)).trans (hfr b b1 b3)))⟩)
    · exact (congrFun (g4 65 (by decide)) 4).trans ((congrFun (hf3 65 (by decide)) 4).trans (up_eq _ _ _ _))
    · rw [← hW4]
      exact (up_ne _ _ (Or.inr (by decide))).trans (up_eq _ _ _ _)
    · rw [← hW4]
      exact up_eq _ _ _ _
theorem EVQ.and {S : ww_S} {D D' j : Nat} {as : List Value} {h : mm_H} {P Q : mm_V → mm_H → Prop} (e1 : EVQ S D j as h P) (e2 : EVQ S D' j as h Q) : EVQ S D j as h (fun v g => P v g ∧ Q v g) := by
  obtain ⟨v1, g1, ⟨F1, h1⟩, p1⟩ := e1
  obtain ⟨v2, g2, ⟨F2, h2⟩, p2⟩ := e2
  have a := h1 (max F1 F2) (Nat.le_max_left _ _) (max D D') (Nat.le_max_left _ _)
  have b := h2 (max F1 F2) (Nat.le_max_right _ _) (max D D') (Nat.le_max_right _ _)
  rw [a] at b
  have c := Option.some.inj b
  have c1 : v1 = v2 := congrArg Prod.fst c
  have c2 : g1 = g2 := congrArg Prod.snd c
  subst c1 c2
  exact ⟨v1, g1, ⟨F1, h1⟩, p1, p2⟩
end N_y
