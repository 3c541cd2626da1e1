section N_p
/-! ===== the class, exactly: FormulaReader.read ===== -/
def rdQ (sh : List mm_C) (V : hV) (f : Nat → Int32) (l a : Nat) (t : hS) : mm_V → mm_H → Prop := fun v g => ∃ W : hV, v = .inl none ∧ g = hH sh W ∧ CSt sh W f l a t ∧ FrR a V W
theorem SCN.fr {sh : List mm_C} {V W : hV} {a q cf cp : Nat} (h : SCN sh V q cf cp) (haq : a + 2 < q) (g : FrR a V W) : SCN sh W q cf cp ∧ W.1 (q + 2) = V.1 (q + 2) ∧ W.1 (q + 4) = V.1 (q + 4) := by
  obtain ⟨h1, h2, h3, h4, h5, h6⟩ := h
  have e : ∀ b, q ≤ b → W.1 b = V.1 b := fun b hb => g b (by omega) (by omega) (by omega) (by omega) (by omega) (by omega) (by omega)
  exact ⟨⟨h1, h2, (congrFun (e (q + 1) (by omega)) 1).trans h3, h4, (congrFun (e (q + 3) (by omega)) 1).trans h5, h6⟩, e _ (by omega), e _ (by omega)⟩
theorem FrR.t {a : Nat} {A B C : hV} (h1 : FrR a A B) (h2 : FrR a B C) : FrR a A C := fun b b1 b2 b3 b4 b5 b6 b7 => (h2 b b1 b2 b3 b4 b5 b6 b7).trans (h1 b b1 b2 b3 b4 b5 b6 b7)
theorem st_err {S : ww_S} {sh : List mm_C} {V : hV} {f : Nat → Int32} {l a : Nat} {t : hS} (h : CSt sh V f l a t) : EV S 1 76 [.ref 65] (hH sh V) (.inl (some (.int (bI t.2.1)))) (hH sh V) := by
  obtain ⟨e, hS, he, _⟩ := h
  have E := s_hasError (S := S) hS
  have e2 : (!decide (e = 0)) = t.2.1 := by
    by_cases c : e = 0
    · rw [decide_eq_true c, he.mp c]
      rfl
    · rw [decide_eq_false c]
      cases h2 : t.2.1 with
      | false => exact absurd (he.mpr h2) c
      | true => rfl
  rw [e2] at E
  exact E
theorem s_read {S : ww_S} {sh : List mm_C} {V : hV} {f : Nat → Int32} {l a q cf cp : Nat} {pl : Bool} (hq : SCN sh V q cf cp) (haq : a + 2 < q) {p : Nat} (h : SRC sh V f l p 0) (hk : kFR sh) (hfk : kForm sh a) (ha : a = 72 ∨ 82 ≤ a) : EVQ S 6 17 [.ref 76, .ref q, .int (bI pl), .ref a] (hH sh V) (rdQ sh V f l a (rlC (cRd f l (V.1 (q + 2)) cf (V.1 (q + 4)) cp pl 601 true (p, false, [], 0, 0, [])))) := by
  have hsrc := h.o
  have fin : ∀ (i : Nat) (needs b : Bool) (t : hS) (U : hV), CSt sh U f l a t → INV t → FrR a V U → WP S 5 mm_m17 175 [some (.ref 76), some (.ref q), some (.int (bI pl)), some (.ref a), some (.int (bI needs)), some (.int (bI b)), some (.int (Int32.ofNat i))] [] (hH sh U) (rdQ sh V f l a (rlC t)) := by
    intro i needs b t U hU hI hF
    obtain ⟨e, hS, he, hr, hf⟩ := hU
    obtain ⟨i1, i2, i3, i4⟩ := hI
    obtain ⟨v, g, E, W, e1, e2, hW, hfW, hfr⟩ := s_release (S := S) hr hf (by omega) (by omega) (s := 7) (fun x hx => hx)
    subst e1 e2
    refine wp_aload_n k17_175 rfl rfl ?_
    refine wp_bipush 7 k17_176 (by decide) ?_
    refine wp_aload_n k17_178 rfl rfl ?_
    refine wp_cvn (st2 := []) k17_179 E (by decide) rfl rfl rfl rfl (by decide) hk.1.o (by decide) ?_
    exact wp_retN k17_182 rfl ⟨W, rfl, rfl, ⟨e, hS.fr fun b b1 b2 => hfr b (by omega) (by omega) (by omega) (by omega), he, hW, hfW⟩, hF.t fun b b1 b2 b3 b4 b5 b6 b7 => hfr b b2 b5 b6 b7⟩
  have key : ∀ (g i : Nat) (needs : Bool) (t : hS) (U : hV), g + i = 601 → CSt sh U f l a t → INV t → FrR a V U → WP S 5 mm_m17 42 [some (.ref 76), some (.ref q), some (.int (bI pl)), some (.ref a), some (.int (bI needs)), some (.int (bI (!t.2.1))), some (.int (Int32.ofNat i))] [] (hH sh U) (rdQ sh V f l a (rlC (cRd f l (V.1 (q + 2)) cf (V.1 (q + 4)) cp pl g needs t))) := by
    intro g
    induction g with
    | zero =>
      intro i needs t U hi hU hI hF
      refine wp_iload k17_42 rfl rfl ?_
      refine wp_sipush 600 k17_44 (by decide) ?_
      refine wp_if_icmp_gt_T k17_47 (i_lt (k := 600) (n := i) (by omega) (by omega)) ?_
      exact fin i needs _ t U hU hI hF
    | succ g ih =>
      intro i needs t U hi hU hI hF
      refine wp_iload k17_42 rfl rfl ?_
      refine wp_sipush 600 k17_44 (by decide) ?_
      refine wp_if_icmp_gt_F k17_47 (i_nlt (k := 600) (n := i) (by omega) (by decide)) ?_
      refine wp_iload k17_50 rfl rfl ?_
      unfold cRd
      cases her : t.2.1 with
      | true =>
        rw [if_pos rfl]
        refine wp_if_eq_T k17_52 rfl ?_
        exact fin i needs _ t U hU hI hF
      | false =>
        rw [if_neg (by decide)]
        refine wp_if_eq_F k17_52 (by decide) ?_
        refine wp_iload k17_55 rfl rfl ?_
        obtain ⟨p2, er, ws, op, nd, fo⟩ := t
        obtain rfl : er = false := her
        obtain ⟨hqU, eq1, eq2⟩ := hq.fr haq hF
        cases needs with
        | true =>
          rw [if_pos rfl]
          obtain ⟨v, gg, E, U2, e1, e2, h2, hfr⟩ := s_readItem (S := S) (pl := pl) hU hI hqU haq
          subst e1 e2
          have hI2 := inv_it (f := f) (l := l) (Gf := U.1 (q + 2)) (cf := cf) (Gp := U.1 (q + 4)) (cp := cp) (pl := pl) hI
          rw [eq1, eq2] at E h2 hI2
          have hF2 := hF.t hfr
          obtain ⟨r2, hr2⟩ : ∃ r, itC f l (V.1 (q + 2)) cf (V.1 (q + 4)) cp pl (p2, false, ws, op, nd, fo) = r := ⟨_, rfl⟩
          rw [hr2] at E h2 hI2 ⊢
          obtain ⟨n2, t2⟩ := r2
          have h2 : CSt sh U2 f l a t2 := h2
          have hI2 : INV t2 := hI2
          have nxt : ∀ b : Bool, t2.2.1 = b → WP S 5 mm_m17 169 [some (.ref 76), some (.ref q), some (.int (bI pl)), some (.ref a), some (.int (bI n2)), some (.int (bI (!b))), some (.int (Int32.ofNat i))] [] (hH sh U2) (rdQ sh V f l a (rlC (cRd f l (V.1 (q + 2)) cf (V.1 (q + 4)) cp pl g n2 t2))) := by
            intro b hb
            refine wp_iinc 1 (L1 := [_, _, _, _, _, _, _]) k17_169 rfl (by decide) rfl ?_
            refine wp_goto k17_172 ?_
            rw [i_succ, ← hb]
            exact ih (i + 1) n2 t2 U2 (by omega) h2 hI2 hF2
          refine wp_if_eq_F k17_57 (by decide) ?_
          refine wp_aload_n k17_60 rfl rfl ?_
          refine wp_aload_n k17_61 rfl rfl ?_
          refine wp_iload_n k17_62 rfl rfl ?_
          refine wp_aload_n k17_63 rfl rfl ?_
          refine wp_cv (st2 := []) k17_64 E (by decide) rfl rfl rfl rfl (by decide) hk.1.o (by decide) ?_
          refine wp_istore (L1 := [_, _, _, _, _, _, _]) k17_67 rfl rfl ?_
          refine wp_aload_n k17_69 rfl rfl ?_
          refine wq_getR k17_70 hk.1 rfl ?_
          refine wp_cv (st2 := []) k17_73 (st_err h2) (by decide) rfl rfl rfl rfl (by decide) hsrc (by decide) ?_
          cases e2 : t2.2.1 with
          | true =>
            refine wp_if_ne_T k17_76 (by decide) ?_
            refine wp_iconst 0 k17_83 (by decide) ?_
            refine wp_istore (L1 := [_, _, _, _, _, _, _]) k17_84 rfl rfl ?_
            refine wp_goto k17_86 ?_
            exact nxt _ e2
          | false =>
            refine wp_if_ne_F k17_76 rfl ?_
            refine wp_iconst 1 k17_79 (by decide) ?_
            refine wp_goto k17_80 ?_
            refine wp_istore (L1 := [_, _, _, _, _, _, _]) k17_84 rfl rfl ?_
            refine wp_goto k17_86 ?_
            exact nxt _ e2
        | false =>
          rw [if_neg (by decide)]
          obtain ⟨e, hS, he, hr, hf⟩ := hU
          obtain rfl : e = 0 := he.mpr rfl
          have hS : SRC sh U f l p2 0 := hS
          have hr : FRS sh U ws op nd := hr
          have hf : FOS sh U a fo := hf
          obtain ⟨i1, i2, i3, i4⟩ := hI
          have hI : INV (p2, false, ws, op, nd, fo) := ⟨i1, i2, i3, i4⟩
          have i1 : op ≤ 8 := i1
          have i2 : nd ≤ 60 := i2
          have i3 : npF ws + fo.length ≤ nd := i3
          have i4 : ws.length = npF ws + op := i4
          refine wp_if_eq_T k17_57 rfl ?_
          refine wp_aload_n k17_89 rfl rfl ?_
          refine wq_getR k17_90 hk.1 rfl ?_
          refine wp_getI k17_93 hS.S.1.h hS.o rfl _ hS.kd.1 ?_
          refine wp_sipush 256 k17_96 (by decide) ?_
          refine wp_isub k17_99 ?_
          refine wp_cs (st2 := []) k17_100 s_isJoin (by decide) rfl rfl rfl (by decide) ?_
          dsimp only
          by_cases cj : kdE f l p2 - 256 = 6 ∨ kdE f l p2 - 256 = 7
          · rw [decide_eq_true cj, if_pos cj]
            have h7 : kdE f l p2 - 256 ≤ 7 := by
              rcases cj with e | e
              · rw [e]
                decide
              · rw [e]
                decide
            obtain ⟨v, gg, E, U2, e9, e1, e2, g1, g2, g3, g4, g5⟩ := s_readJoin (S := S) hS hr hf i2 (by omega) i3 (fun hn s => by have := rel_len s ws.length ws fo rfl; omega) (fun x hx => Int32.le_trans hx h7)
            subst e1 e2
            have h2 : CSt sh U2 f l a (joC f l (p2, false, ws, op, nd, fo)) := by
              unfold joC
              dsimp only
              by_cases c60 : nd < 60
              · rw [if_pos c60] at g1 g3 g4 ⊢
                rw [if_pos c60] at g3
                rw [decide_eq_true c60] at g2
                exact ⟨e9, g1, g2, g3, g4⟩
              · rw [if_neg c60] at g1 g3 g4 ⊢
                rw [if_neg c60] at g3
                rw [decide_eq_false c60] at g2
                exact ⟨e9, g1, g2, g3, g4⟩
            have hI2 := inv_jo (f := f) (l := l) hI cj
            have hF2 := hF.t g5
            obtain ⟨t2, ht2⟩ : ∃ r, joC f l (p2, false, ws, op, nd, fo) = r := ⟨_, rfl⟩
            rw [ht2] at h2 hI2 ⊢
            have nxt : ∀ b : Bool, t2.2.1 = b → WP S 5 mm_m17 169 [some (.ref 76), some (.ref q), some (.int (bI pl)), some (.ref a), some (.int (bI true)), some (.int (bI (!b))), some (.int (Int32.ofNat i))] [] (hH sh U2) (rdQ sh V f l a (rlC (cRd f l (V.1 (q + 2)) cf (V.1 (q + 4)) cp pl g true t2))) := by
              intro b hb
              refine wp_iinc 1 (L1 := [_, _, _, _, _, _, _]) k17_169 rfl (by decide) rfl ?_
              refine wp_goto k17_172 ?_
              rw [i_succ, ← hb]
              exact ih (i + 1) true t2 U2 (by omega) h2 hI2 hF2
            refine wp_if_eq_F k17_103 (by decide) ?_
            refine wp_aload_n k17_106 rfl rfl ?_
            refine wp_aload_n k17_107 rfl rfl ?_
            refine wp_cvn (st2 := []) k17_108 E (by decide) rfl rfl rfl rfl (by decide) hk.1.o (by decide) ?_
            refine wp_iconst 1 k17_111 (by decide) ?_
            refine wp_istore (L1 := [_, _, _, _, _, _, _]) k17_112 rfl rfl ?_
            refine wp_aload_n k17_114 rfl rfl ?_
            refine wq_getR k17_115 hk.1 rfl ?_
            refine wp_cv (st2 := []) k17_118 (st_err h2) (by decide) rfl rfl rfl rfl (by decide) hsrc (by decide) ?_
            cases e2 : t2.2.1 with
            | true =>
              refine wp_if_ne_T k17_121 (by decide) ?_
              refine wp_iconst 0 k17_128 (by decide) ?_
              refine wp_istore (L1 := [_, _, _, _, _, _, _]) k17_129 rfl rfl ?_
              refine wp_goto k17_131 ?_
              exact nxt _ e2
            | false =>
              refine wp_if_ne_F k17_121 rfl ?_
              refine wp_iconst 1 k17_124 (by decide) ?_
              refine wp_goto k17_125 ?_
              refine wp_istore (L1 := [_, _, _, _, _, _, _]) k17_129 rfl rfl ?_
              refine wp_goto k17_131 ?_
              exact nxt _ e2
          · rw [decide_eq_false cj, if_neg cj]
            refine wp_if_eq_T k17_103 rfl ?_
            refine wp_aload_n k17_134 rfl rfl ?_
            refine wp_getI k17_135 hk.1.h hk.1.o rfl _ hr.2.2.1 ?_
            by_cases co : 0 < op
            · rw [if_pos co]
              obtain ⟨v, gg, E, U2, e9, e1, e2, g1, g2, g3, g4, g5⟩ := s_readClose (S := S) hS hr hf i2 (by omega) i3 ⟨co, i1⟩ ⟨rel_7 i3 i4 co, by have := rel_len 7 ws.length ws fo rfl; omega⟩
              subst e1 e2
              have h2 : CSt sh U2 f l a (clC f l (p2, false, ws, op, nd, fo)) := by
                unfold clC
                dsimp only
                by_cases c41 : kdE f l p2 = 41
                · rw [if_pos c41] at g1 g3 g4 ⊢
                  rw [if_pos c41] at g3
                  rw [decide_eq_true c41] at g2
                  exact ⟨e9, g1, g2, g3, g4⟩
                · rw [if_neg c41] at g1 g3 g4 ⊢
                  rw [if_neg c41] at g3
                  rw [decide_eq_false c41] at g2
                  exact ⟨e9, g1, g2, g3, g4⟩
              have hI2 := inv_cl (f := f) (l := l) hI co
              have hF2 := hF.t g5
              obtain ⟨t2, ht2⟩ : ∃ r, clC f l (p2, false, ws, op, nd, fo) = r := ⟨_, rfl⟩
              rw [ht2] at h2 hI2 ⊢
              have nxt : ∀ b : Bool, t2.2.1 = b → WP S 5 mm_m17 169 [some (.ref 76), some (.ref q), some (.int (bI pl)), some (.ref a), some (.int (bI false)), some (.int (bI (!b))), some (.int (Int32.ofNat i))] [] (hH sh U2) (rdQ sh V f l a (rlC (cRd f l (V.1 (q + 2)) cf (V.1 (q + 4)) cp pl g false t2))) := by
                intro b hb
                refine wp_iinc 1 (L1 := [_, _, _, _, _, _, _]) k17_169 rfl (by decide) rfl ?_
                refine wp_goto k17_172 ?_
                rw [i_succ, ← hb]
                exact ih (i + 1) false t2 U2 (by omega) h2 hI2 hF2
              refine wp_if_le_F k17_138 (i_lt (k := 0) (n := op) co (by omega)) ?_
              refine wp_aload_n k17_141 rfl rfl ?_
              refine wp_aload_n k17_142 rfl rfl ?_
              refine wp_cvn (st2 := []) k17_143 E (by decide) rfl rfl rfl rfl (by decide) hk.1.o (by decide) ?_
              refine wp_aload_n k17_146 rfl rfl ?_
              refine wq_getR k17_147 hk.1 rfl ?_
              refine wp_cv (st2 := []) k17_150 (st_err h2) (by decide) rfl rfl rfl rfl (by decide) hsrc (by decide) ?_
              cases e2 : t2.2.1 with
              | true =>
                refine wp_if_ne_T k17_153 (by decide) ?_
                refine wp_iconst 0 k17_160 (by decide) ?_
                refine wp_istore (L1 := [_, _, _, _, _, _, _]) k17_161 rfl rfl ?_
                refine wp_goto k17_163 ?_
                exact nxt _ e2
              | false =>
                refine wp_if_ne_F k17_153 rfl ?_
                refine wp_iconst 1 k17_156 (by decide) ?_
                refine wp_goto k17_157 ?_
                refine wp_istore (L1 := [_, _, _, _, _, _, _]) k17_161 rfl rfl ?_
                refine wp_goto k17_163 ?_
                exact nxt _ e2
            · rw [if_neg co]
              refine wp_if_le_T k17_138 (i_nlt (k := 0) (n := op) (by omega) (by omega)) ?_
              refine wp_iconst 0 k17_166 (by decide) ?_
              refine wp_istore (L1 := [_, _, _, _, _, _, _]) k17_167 rfl rfl ?_
              refine wp_iinc 1 (L1 := [_, _, _, _, _, _, _]) k17_169 rfl (by decide) rfl ?_
              refine wp_goto k17_172 ?_
              rw [i_succ]
              refine wp_iload k17_42 rfl rfl ?_
              refine wp_sipush 600 k17_44 (by decide) ?_
              by_cases ci : 600 < i + 1
              · refine wp_if_icmp_gt_T k17_47 (i_lt (k := 600) (n := i + 1) ci (by omega)) ?_
                exact fin (i + 1) false false _ U ⟨0, hS, ⟨fun _ => rfl, fun _ => rfl⟩, hr, hf⟩ hI hF
              · refine wp_if_icmp_gt_F k17_47 (i_nlt (k := 600) (n := i + 1) (by omega) (by decide)) ?_
                refine wp_iload k17_50 rfl rfl ?_
                refine wp_if_eq_T k17_52 rfl ?_
                exact fin (i + 1) false false _ U ⟨0, hS, ⟨fun _ => rfl, fun _ => rfl⟩, hr, hf⟩ hI hF
  obtain ⟨EC, hFO⟩ := s_clear (S := S) (V := up (up (up V 76 3 0) 76 4 0) 76 5 0) hfk ha
  obtain ⟨U, hU⟩ : ∃ U, up (up (up (up V 76 3 0) 76 4 0) 76 5 0) a 3 0 = U := ⟨_, rfl⟩
  rw [hU] at EC hFO
  have gn : ∀ b, b ≠ 76 → b ≠ a → U.1 b = V.1 b := fun b b1 b2 => by
    rw [← hU]
    exact (funext fun j => up_ne _ _ (Or.inl b2)).trans ((funext fun j => up_ne _ _ (Or.inl b1)).trans ((funext fun j => up_ne _ _ (Or.inl b1)).trans (funext fun j => up_ne _ _ (Or.inl b1))))
  have hSU : SRC sh U f l p 0 := h.fr fun b b1 b2 => gn b (by omega) (by omega)
  have hrU : FRS sh U [] 0 0 := by
    rw [← hU]
    refine ⟨hk, ?_, ?_, ?_, fun i x hx => by cases hx⟩
    · exact (up_ne _ _ (Or.inl (by omega))).trans ((up_ne _ _ (Or.inr (by decide))).trans ((up_ne _ _ (Or.inr (by decide))).trans (up_eq _ _ _ _)))
    · exact (up_ne _ _ (Or.inl (by omega))).trans ((up_ne _ _ (Or.inr (by decide))).trans (up_eq _ _ _ _))
    · exact (up_ne _ _ (Or.inl (by omega))).trans (up_eq _ _ _ _)
  have hC : CSt sh U f l a (p, false, [], 0, 0, []) := ⟨0, hSU, ⟨fun _ => rfl, fun _ => rfl⟩, hrU, hFO⟩
  have hIn : INV (p, false, [], 0, 0, []) := ⟨Nat.zero_le _, Nat.zero_le _, Nat.le_refl 0, rfl⟩
  refine ev_of P17 rfl ?_
  refine wp_aload_n k17_0 rfl rfl ?_
  refine wp_iconst 0 k17_1 (by decide) ?_
  refine wp_putI k17_2 hk.1.h hk.1.o rfl rfl rfl ?_
  refine wp_aload_n k17_5 rfl rfl ?_
  refine wp_iconst 0 k17_6 (by decide) ?_
  refine wp_putI k17_7 hk.1.h hk.1.o rfl rfl rfl ?_
  refine wp_aload_n k17_10 rfl rfl ?_
  refine wp_iconst 0 k17_11 (by decide) ?_
  refine wp_putI k17_12 hk.1.h hk.1.o rfl rfl rfl ?_
  refine wp_aload_n k17_15 rfl rfl ?_
  refine wp_cvn (st2 := []) k17_16 EC (by decide) rfl rfl rfl rfl hfk.1.h hfk.1.o (by decide) ?_
  refine wp_iconst 1 k17_19 (by decide) ?_
  refine wp_istore (L1 := [_, _, _, _, _, _, _]) k17_20 rfl rfl ?_
  refine wp_aload_n k17_22 rfl rfl ?_
  refine wq_getR k17_23 hk.1 rfl ?_
  refine wp_cv (st2 := []) k17_26 (st_err hC) (by decide) rfl rfl rfl rfl (by decide) hsrc (by decide) ?_
  refine wp_if_ne_F k17_29 rfl ?_
  refine wp_iconst 1 k17_32 (by decide) ?_
  refine wp_goto k17_33 ?_
  refine wp_istore (L1 := [_, _, _, _, _, _, _]) k17_37 rfl rfl ?_
  refine wp_iconst 0 k17_39 (by decide) ?_
  refine wp_istore (L1 := [_, _, _, _, _, _, _]) k17_40 rfl rfl ?_
  exact key 601 0 true _ U rfl hC hIn (fun b b1 b2 b3 b4 b5 b6 b7 => gn b b2 b5)
end N_p
