section N_u
/-! ===== the class, exactly: a description ===== -/
/-- the place, persons, how many, what they see, laws, first worlds, the real one -/
abbrev dS : Type := Nat × (Nat → Int32) × Nat × (Nat → Int32) × Nat × Int32 × Int32
/-- one line more -/
def lnS (f : Nat → Int32) (l : Nat) (Gf : Nat → Int32) (cf : Nat) (t : dS) : Option dS :=
  if t.2.2.1 = 0 ∧ spB f l (nxE f l t.1) 3 2195162545188048470124 = true then (if (lwS f l Gf cf t.2.1 t.2.2.1 (nxE f l t.1) t.2.2.2.2.1 t.2.2.2.2.2.1).2.1 = true then none else some ((lwS f l Gf cf t.2.1 t.2.2.1 (nxE f l t.1) t.2.2.2.2.1 t.2.2.2.2.2.1).1, t.2.1, t.2.2.1, t.2.2.2.1, (lwS f l Gf cf t.2.1 t.2.2.1 (nxE f l t.1) t.2.2.2.2.1 t.2.2.2.2.2.1).2.2.1, (lwS f l Gf cf t.2.1 t.2.2.1 (nxE f l t.1) t.2.2.2.2.1 t.2.2.2.2.2.1).2.2.2, t.2.2.2.2.2.2))
  else if spB f l (nxE f l t.1) 6 160765180144170663739740739734469041235173086068848 = true then (if (psS f l Gf cf t.2.1 t.2.2.1 t.2.2.2.1 (nxE f l t.1)).1.2.1 = true then none else some ((psS f l Gf cf t.2.1 t.2.2.1 t.2.2.2.1 (nxE f l t.1)).1.1, (psS f l Gf cf t.2.1 t.2.2.1 t.2.2.2.1 (nxE f l t.1)).1.2.2.1, (psS f l Gf cf t.2.1 t.2.2.1 t.2.2.2.1 (nxE f l t.1)).1.2.2.2, (psS f l Gf cf t.2.1 t.2.2.1 t.2.2.2.1 (nxE f l t.1)).2, t.2.2.2.2))
  else if 0 < t.2.2.1 ∧ spB f l (nxE f l t.1) 4 8556641553329882635686364840050 = true then (if (rlS f l Gf cf t.2.2.2.2.2.1 (nxE f l t.1)).2.1 = true then none else some ((rlS f l Gf cf t.2.2.2.2.2.1 (nxE f l t.1)).1, t.2.1, t.2.2.1, t.2.2.2.1, t.2.2.2.2.1, t.2.2.2.2.2.1, (rlS f l Gf cf t.2.2.2.2.2.1 (nxE f l t.1)).2.2))
  else none
def dRd (f : Nat → Int32) (l : Nat) (Gf : Nat → Int32) (cf : Nat) : Nat → dS → Option dS
  | 0, t => some t
  | g + 1, t => if kdE f l t.1 = 267 ∧ 0 < t.2.2.1 then some t else if kdE f l t.1 = 59 then (match lnS f l Gf cf t with
    | some s => dRd f l Gf cf g s
    | none => none) else none
def dsM (sh : List mm_C) (W : hV) (f : Nat → Int32) (l q : Nat) (Gf : Nat → Int32) (cf : Nat) : Option dS → Prop
  | none => ∃ p, SRE sh W f l p true
  | some t => SRC sh W f l t.1 0 ∧ SCX W q Gf cf t.2.1 t.2.2.1 t.2.2.2.1 t.2.2.2.2.1 t.2.2.2.2.2.1 (if t.2.2.2.2.2.2 = -1 then loF t.2.2.2.2.2.1 32 0 else t.2.2.2.2.2.2)
def dsP (sh : List mm_C) (V : hV) (f : Nat → Int32) (l q : Nat) (Gf : Nat → Int32) (cf : Nat) (r : Option dS) : mm_V → mm_H → Prop := fun v g => ∃ W : hV, v = .inl (some (.ref q)) ∧ g = hH sh W ∧ FrD q V W ∧ dsM sh W f l q Gf cf r
/-- a formula of a law that was read without an error stands for a set of worlds -/
def WFR (f : Nat → Int32) (l : Nat) : Prop := ∀ (Gf : Nat → Int32) (cf : Nat) (Gp : Nat → Int32) (cp p : Nat) (fi : Int32), cf ≤ 5 → p ≤ l → (lwT f l Gf cf Gp cp p).2.1 = false → ∃ v, tvF fi (lwT f l Gf cf Gp cp p).2.2.2.2.2 [] = some [v]
theorem FrD.r (q : Nat) (V : hV) : FrD q V V := fun _ _ _ => rfl
theorem FrD.t {q : Nat} {A B C : hV} (h1 : FrD q A B) (h2 : FrD q B C) : FrD q A C := fun b b1 b2 => (h2 b b1 b2).trans (h1 b b1 b2)
theorem FrD.p {q : Nat} {A B : hV} (h : FrP A B) : FrD q A B := fun b b1 _ => h b (by omega)
theorem s_lines {S : ww_S} {sh : List mm_C} {V : hV} {f : Nat → Int32} {l q : Nat} {Gf : Nat → Int32} {cf : Nat} (hk : kDR sh) (hq : kScene sh q) (h100 : 100 ≤ q) (hwf : WFR f l) : (∀ (g i : Nat) (t : dS) (U : hV) (y3 : Option Value), g + i = 601 → SRC sh U f l t.1 0 → SCX U q Gf cf t.2.1 t.2.2.1 t.2.2.2.1 t.2.2.2.2.1 t.2.2.2.2.2.1 t.2.2.2.2.2.2 → FrD q V U → WP S 8 mm_m1 22 [some (.ref 79), some (.ref q), some (.int (Int32.ofNat i)), y3] [] (hH sh U) (dsP sh V f l q Gf cf (dRd f l Gf cf g t))) ∧ ∀ (p i : Nat) (U : hV) (y3 : Option Value) (Gp : Nat → Int32) (cp : Nat) (sn : Nat → Int32) (lw : Nat) (fi re : Int32), i ≤ 601 → SRE sh U f l p true → SCX U q Gf cf Gp cp sn lw fi re → FrD q V U → WP S 8 mm_m1 22 [some (.ref 79), some (.ref q), some (.int (Int32.ofNat i)), y3] [] (hH sh U) (dsP sh V f l q Gf cf none) := by
  have fin : ∀ (L : mm_L) (U : hV) (r : Option dS) (Gp : Nat → Int32) (cp : Nat) (sn : Nat → Int32) (lw : Nat) (fi re : Int32), mm_get L 1 = some (.ref q) → SCX U q Gf cf Gp cp sn lw fi re → FrD q V U → (∀ W : hV, (∀ b, b ≠ q → W.1 b = U.1 b) → SCX W q Gf cf Gp cp sn lw fi (if re = -1 then loF fi 32 0 else re) → dsM sh W f l q Gf cf r) → WP S 8 mm_m1 156 L [] (hH sh U) (dsP sh V f l q Gf cf r) := by
    intro L U r Gp cp sn lw fi re hL hX hF hr
    obtain ⟨x1, x2, x3, x4, x5, x6, x7, x8, x9, x10, x11⟩ := id hX
    refine wp_aload_n k1_156 hL rfl ?_
    refine wp_getI k1_157 hq.1.h hq.1.o rfl _ x11 ?_
    refine wp_iconst (-1) k1_160 (by decide) ?_
    by_cases c : re = -1
    · rw [if_pos c] at hr
      refine wp_if_icmp_ne_F k1_161 c ?_
      refine wp_aload_n k1_164 hL rfl ?_
      refine wp_aload_n k1_165 hL rfl ?_
      refine wp_getI k1_166 hq.1.h hq.1.o rfl _ x10 ?_
      refine wp_cs (st2 := [_]) k1_169 s_lowest (by decide) rfl rfl rfl (by decide) ?_
      refine wp_putI k1_172 hq.1.h hq.1.o rfl rfl rfl ?_
      refine wp_aload_n k1_175 hL rfl ?_
      have gn : ∀ b, b ≠ q → (up U q 5 (loF fi 32 0)).1 b = U.1 b := fun b hb => funext fun j => up_ne _ _ (Or.inl hb)
      have gq : ∀ k, k ≠ 5 → (up U q 5 (loF fi 32 0)).1 q k = U.1 q k := fun k hk5 => up_ne _ _ (Or.inr hk5)
      exact wp_retS k1_176 rfl ⟨_, rfl, rfl, hF.t fun b b1 b2 => gn b (by omega), hr _ gn ⟨(gn _ (by omega)).trans x1, (congrFun (gn _ (by omega)) 1).trans x2, x3, (gn _ (by omega)).trans x4, (congrFun (gn _ (by omega)) 1).trans x5, x6, (gn _ (by omega)).trans x7, (gq 3 (by decide)).trans x8, x9, (gq 4 (by decide)).trans x10, up_eq _ _ _ _⟩⟩
    · rw [if_neg c] at hr
      refine wp_if_icmp_ne_T k1_161 c ?_
      refine wp_aload_n k1_175 hL rfl ?_
      exact wp_retS k1_176 rfl ⟨_, rfl, rfl, hF, hr U (fun _ _ => rfl) hX⟩
  have errL : ∀ (p i : Nat) (U : hV) (y3 : Option Value) (Gp : Nat → Int32) (cp : Nat) (sn : Nat → Int32) (lw : Nat) (fi re : Int32), i ≤ 601 → SRE sh U f l p true → SCX U q Gf cf Gp cp sn lw fi re → FrD q V U → WP S 8 mm_m1 22 [some (.ref 79), some (.ref q), some (.int (Int32.ofNat i)), y3] [] (hH sh U) (dsP sh V f l q Gf cf none) := by
    intro p i U y3 Gp cp sn lw fi re hi hS hX hF
    have hN : ∀ W : hV, (∀ b, b ≠ q → W.1 b = U.1 b) → SCX W q Gf cf Gp cp sn lw fi (if re = -1 then loF fi 32 0 else re) → dsM sh W f l q Gf cf none := fun W g _ => ⟨p, hS.fr fun b b1 b2 => g b (by omega)⟩
    refine wp_iload_n k1_22 rfl rfl ?_
    refine wp_sipush 600 k1_23 (by decide) ?_
    by_cases ci : 600 < i
    · refine wp_if_icmp_gt_T k1_26 (i_lt (k := 600) (n := i) ci (by omega)) ?_
      exact fin _ U none Gp cp sn lw fi re rfl hX hF hN
    · refine wp_if_icmp_gt_F k1_26 (i_nlt (k := 600) (n := i) (by omega) (by decide)) ?_
      obtain ⟨e, h1, h2⟩ := hS
      have hne : ¬ e = 0 := fun z => by cases h2.mp z
      have E := s_isAtEnd (S := S) h1 hk hq hX.2.2.2.2.1 hX.2.2.2.2.2.1
      rw [decide_eq_false hne, show (!false || (decide (kdE f l p = 267) && decide (0 < cp))) = true from rfl] at E
      refine wp_aload_n k1_29 rfl rfl ?_
      refine wp_aload_n k1_30 rfl rfl ?_
      refine wp_cv (st2 := []) k1_31 E (by decide) rfl rfl rfl rfl (by decide) hk.1.o (by decide) ?_
      refine wp_if_ne_T k1_34 (by decide) ?_
      exact fin _ U none Gp cp sn lw fi re rfl hX hF hN
  refine ⟨?_, errL⟩
  intro g
  induction g with
  | zero =>
    intro i t U y3 hi hS hX hF
    refine wp_iload_n k1_22 rfl rfl ?_
    refine wp_sipush 600 k1_23 (by decide) ?_
    refine wp_if_icmp_gt_T k1_26 (i_lt (k := 600) (n := i) (by omega) (by omega)) ?_
    exact fin _ U _ _ _ _ _ _ _ rfl hX hF fun W g h2 => ⟨hS.fr fun b b1 b2 => g b (by omega), h2⟩
  | succ g ih =>
    intro i t U y3 hi hS hX hF
    have ho := hS.o
    have x5 := hX.2.2.2.2.1
    have x6 := hX.2.2.2.2.2.1
    refine wp_iload_n k1_22 rfl rfl ?_
    refine wp_sipush 600 k1_23 (by decide) ?_
    refine wp_if_icmp_gt_F k1_26 (i_nlt (k := 600) (n := i) (by omega) (by decide)) ?_
    unfold dRd
    have E := s_isAtEnd (S := S) hS hk hq x5 x6
    refine wp_aload_n k1_29 rfl rfl ?_
    refine wp_aload_n k1_30 rfl rfl ?_
    refine wp_cv (st2 := []) k1_31 E (by decide) rfl rfl rfl rfl (by decide) hk.1.o (by decide) ?_
    by_cases c1 : kdE f l t.1 = 267 ∧ 0 < t.2.2.1
    · rw [if_pos c1, decide_eq_true c1.1, decide_eq_true c1.2]
      refine wp_if_ne_T k1_34 (by decide) ?_
      exact fin _ U _ _ _ _ _ _ _ rfl hX hF fun W g h2 => ⟨hS.fr fun b b1 b2 => g b (by omega), h2⟩
    · rw [if_neg c1]
      have hb : (!decide ((0 : Int32) = 0) || (decide (kdE f l t.1 = 267) && decide (0 < t.2.2.1))) = false := by
        by_cases d1 : kdE f l t.1 = 267
        · rw [decide_eq_true d1, decide_eq_false (fun z => c1 ⟨d1, z⟩)]
          rfl
        · rw [decide_eq_false d1]
          rfl
      rw [hb]
      refine wp_if_ne_F k1_34 rfl ?_
      obtain ⟨V1, E1, h1, hF1⟩ := s_take (S := S) hS (c := 59)
      refine wp_aload_n k1_37 rfl rfl ?_
      refine wq_getR k1_38 hk.1 rfl ?_
      refine wp_bipush 59 k1_41 (by decide) ?_
      refine wp_cv (st2 := []) k1_43 E1 (by decide) rfl rfl rfl rfl (by decide) ho (by decide) ?_
      have hX1 : SCX V1 q Gf cf t.2.1 t.2.2.1 t.2.2.2.1 t.2.2.2.2.1 t.2.2.2.2.2.1 t.2.2.2.2.2.2 := hX.fr fun b b1 _ => hF1 b (by omega)
      have hD1 : FrD q V V1 := hF.t (FrD.p hF1)
      by_cases c2 : kdE f l t.1 = 59
      · rw [if_pos c2, if_pos c2] at h1
        rw [if_pos c2, decide_eq_true c2]
        refine wp_if_ne_T k1_46 (by decide) ?_
        have nxt : ∀ (er : Bool) (s : dS) (W : hV), lnS f l Gf cf t = (if er = true then none else some s) → SRE sh W f l s.1 er → SCX W q Gf cf s.2.1 s.2.2.1 s.2.2.2.1 s.2.2.2.2.1 s.2.2.2.2.2.1 s.2.2.2.2.2.2 → FrD q V1 W → ∀ z3 : Option Value, WP S 8 mm_m1 150 [some (.ref 79), some (.ref q), some (.int (Int32.ofNat i)), z3] [] (hH sh W) (dsP sh V f l q Gf cf (match lnS f l Gf cf t with
          | some s => dRd f l Gf cf g s
          | none => none)) := by
          intro er s W hs hW hXW hDW z3
          refine wp_iinc 1 (L1 := [_, _, _, _]) k1_150 rfl (by decide) rfl ?_
          refine wp_goto k1_153 ?_
          rw [i_succ, hs]
          cases er with
          | true => exact errL _ (i + 1) W _ _ _ _ _ _ _ (by omega) hW hXW (hD1.t hDW)
          | false => exact ih (i + 1) s W _ (by omega) hW.f hXW (hD1.t hDW)
        have pl := hS.p
        have p1 := h1.p
        refine wp_aload_n k1_51 rfl rfl ?_
        refine wq_getR k1_52 hq.1 rfl ?_
        refine wp_getI k1_55 hq.2.2.1.1.h hq.2.2.1.1.o rfl _ hX1.2.2.2.2.1 ?_
        have E2 := fun {k n N : Nat} (x : XS k n N) => s_isWord (S := S) h1 x
        have bad : ∀ {z : Int32}, lnS f l Gf cf t = none → WP S 8 mm_m1 135 [some (.ref 79), some (.ref q), some (.int (Int32.ofNat i)), some (.int z)] [] (hH sh V1) (dsP sh V f l q Gf cf (match lnS f l Gf cf t with
          | some s => dRd f l Gf cf g s
          | none => none)) := by
          intro z hn
          obtain ⟨W, E9, h9, hF9⟩ := s_fail (S := S) h1 (c := 1) (x := Int32.ofNat (nxE f l t.1))
          refine wp_aload_n k1_135 rfl rfl ?_
          refine wq_getR k1_136 hk.1 rfl ?_
          refine wp_iconst 1 k1_139 (by decide) ?_
          refine wp_aload_n k1_140 rfl rfl ?_
          refine wq_getR k1_141 hk.1 rfl ?_
          refine wp_getI k1_144 h1.S.1.h ho rfl _ h1.kd.2.1 ?_
          refine wp_cvn (st2 := []) k1_147 E9 (by decide) rfl rfl rfl rfl (by decide) ho (by decide) ?_
          exact nxt true (nxE f l t.1, t.2) W (hn.trans (if_pos rfl).symm) (h9.e1 (er_ne rfl (by decide))) (hX1.fr fun b b1 _ => hF9 b (by omega)) (FrD.p hF9) _
        have pers : ∀ {z : Int32}, spB f l (nxE f l t.1) 6 160765180144170663739740739734469041235173086068848 = true → (∀ h : Prop, t.2.2.1 = 0 ∧ spB f l (nxE f l t.1) 3 2195162545188048470124 = true → h) → WP S 8 mm_m1 103 [some (.ref 79), some (.ref q), some (.int (Int32.ofNat i)), some (.int z)] [] (hH sh V1) (dsP sh V f l q Gf cf (match lnS f l Gf cf t with
          | some s => dRd f l Gf cf g s
          | none => none)) := by
          intro z hp hnl
          obtain ⟨u, gg, E9, W, e1, e2, r1, r2, r3⟩ := s_readPerson (S := S) h1 hX1 hk hq h100
          subst e1 e2
          refine wp_aload_n k1_103 rfl rfl ?_
          refine wp_aload_n k1_104 rfl rfl ?_
          refine wp_cvn (st2 := []) k1_105 E9 (by decide) rfl rfl rfl rfl (by decide) hk.1.o (by decide) ?_
          refine wp_goto k1_108 ?_
          exact nxt (psS f l Gf cf t.2.1 t.2.2.1 t.2.2.2.1 (nxE f l t.1)).1.2.1 ((psS f l Gf cf t.2.1 t.2.2.1 t.2.2.2.1 (nxE f l t.1)).1.1, (psS f l Gf cf t.2.1 t.2.2.1 t.2.2.2.1 (nxE f l t.1)).1.2.2.1, (psS f l Gf cf t.2.1 t.2.2.1 t.2.2.2.1 (nxE f l t.1)).1.2.2.2, (psS f l Gf cf t.2.1 t.2.2.1 t.2.2.2.1 (nxE f l t.1)).2, t.2.2.2.2) W ((if_neg (hnl False)).trans (if_pos hp)) r1 r2 r3 _
        by_cases c3 : 0 < t.2.2.1
        · have hnl : ∀ h : Prop, t.2.2.1 = 0 ∧ spB f l (nxE f l t.1) 3 2195162545188048470124 = true → h := fun h z => absurd z.1 (by omega)
          refine wp_if_le_F k1_58 (i_lt (k := 0) (n := t.2.2.1) c3 (by omega)) ?_
          refine wp_iconst 1 k1_61 (by decide) ?_
          refine wp_goto k1_62 ?_
          refine wp_istore_n (L1 := [_, _, _, _]) k1_66 rfl rfl ?_
          refine wp_iload_n k1_67 rfl rfl ?_
          refine wp_if_ne_T k1_68 (by decide) ?_
          refine wp_aload_n k1_91 rfl rfl ?_
          refine wq_getR k1_92 hk.1 rfl ?_
          refine wp_ldcR k1_95 ?_
          refine wp_cv (st2 := []) k1_97 (E2 XS26) (by decide) rfl rfl rfl rfl (by decide) ho (by decide) ?_
          by_cases c4 : spB f l (nxE f l t.1) 6 160765180144170663739740739734469041235173086068848 = true
          · rw [c4]
            refine wp_if_eq_F k1_100 (by decide) ?_
            exact pers c4 hnl
          · rw [Bool.eq_false_iff.mpr c4]
            refine wp_if_eq_T k1_100 rfl ?_
            refine wp_iload_n k1_111 rfl rfl ?_
            refine wp_if_eq_F k1_112 (by decide) ?_
            refine wp_aload_n k1_115 rfl rfl ?_
            refine wq_getR k1_116 hk.1 rfl ?_
            refine wp_ldcR k1_119 ?_
            refine wp_cv (st2 := []) k1_121 (E2 XS28) (by decide) rfl rfl rfl rfl (by decide) ho (by decide) ?_
            by_cases c5 : spB f l (nxE f l t.1) 4 8556641553329882635686364840050 = true
            · rw [c5]
              refine wp_if_eq_F k1_124 (by decide) ?_
              obtain ⟨u, gg, E9, W, e1, e2, r1, r2, r3⟩ := s_readReal (S := S) h1 hX1 hk hq h100
              subst e1 e2
              refine wp_aload_n k1_127 rfl rfl ?_
              refine wp_aload_n k1_128 rfl rfl ?_
              refine wp_cvn (st2 := []) k1_129 E9 (by decide) rfl rfl rfl rfl (by decide) hk.1.o (by decide) ?_
              refine wp_goto k1_132 ?_
              exact nxt (rlS f l Gf cf t.2.2.2.2.2.1 (nxE f l t.1)).2.1 ((rlS f l Gf cf t.2.2.2.2.2.1 (nxE f l t.1)).1, t.2.1, t.2.2.1, t.2.2.2.1, t.2.2.2.2.1, t.2.2.2.2.2.1, (rlS f l Gf cf t.2.2.2.2.2.1 (nxE f l t.1)).2.2) W ((if_neg (hnl False)).trans ((if_neg c4).trans (if_pos ⟨c3, c5⟩))) r1 r2 r3 _
            · rw [Bool.eq_false_iff.mpr c5]
              refine wp_if_eq_T k1_124 rfl ?_
              exact bad ((if_neg (hnl False)).trans ((if_neg c4).trans (if_neg fun z => c5 z.2)))
        · have hc0 : t.2.2.1 = 0 := by omega
          refine wp_if_le_T k1_58 (i_nlt (k := 0) (n := t.2.2.1) (by omega) (by omega)) ?_
          refine wp_iconst 0 k1_65 (by decide) ?_
          refine wp_istore_n (L1 := [_, _, _, _]) k1_66 rfl rfl ?_
          refine wp_iload_n k1_67 rfl rfl ?_
          refine wp_if_ne_F k1_68 rfl ?_
          refine wp_aload_n k1_71 rfl rfl ?_
          refine wq_getR k1_72 hk.1 rfl ?_
          refine wp_ldcR k1_75 ?_
          refine wp_cv (st2 := []) k1_77 (E2 XS24) (by decide) rfl rfl rfl rfl (by decide) ho (by decide) ?_
          by_cases c4 : spB f l (nxE f l t.1) 3 2195162545188048470124 = true
          · rw [c4]
            refine wp_if_eq_F k1_80 (by decide) ?_
            obtain ⟨u, gg, E9, W, e1, e2, r1, r2, r3⟩ := s_readLaw (S := S) h1 hX1 hk hq h100 (hwf _ _ _ _ _ _ hX1.2.2.1 p1.1)
            subst e1 e2
            refine wp_aload_n k1_83 rfl rfl ?_
            refine wp_aload_n k1_84 rfl rfl ?_
            refine wp_cvn (st2 := []) k1_85 E9 (by decide) rfl rfl rfl rfl (by decide) hk.1.o (by decide) ?_
            refine wp_goto k1_88 ?_
            exact nxt (lwS f l Gf cf t.2.1 t.2.2.1 (nxE f l t.1) t.2.2.2.2.1 t.2.2.2.2.2.1).2.1 ((lwS f l Gf cf t.2.1 t.2.2.1 (nxE f l t.1) t.2.2.2.2.1 t.2.2.2.2.2.1).1, t.2.1, t.2.2.1, t.2.2.2.1, (lwS f l Gf cf t.2.1 t.2.2.1 (nxE f l t.1) t.2.2.2.2.1 t.2.2.2.2.2.1).2.2.1, (lwS f l Gf cf t.2.1 t.2.2.1 (nxE f l t.1) t.2.2.2.2.1 t.2.2.2.2.2.1).2.2.2, t.2.2.2.2.2.2) W (if_pos ⟨hc0, c4⟩) r1 r2 r3 _
          · rw [Bool.eq_false_iff.mpr c4]
            refine wp_if_eq_T k1_80 rfl ?_
            have hnl : ∀ h : Prop, t.2.2.1 = 0 ∧ spB f l (nxE f l t.1) 3 2195162545188048470124 = true → h := fun h z => absurd z.2 c4
            refine wp_aload_n k1_91 rfl rfl ?_
            refine wq_getR k1_92 hk.1 rfl ?_
            refine wp_ldcR k1_95 ?_
            refine wp_cv (st2 := []) k1_97 (E2 XS26) (by decide) rfl rfl rfl rfl (by decide) ho (by decide) ?_
            by_cases c5 : spB f l (nxE f l t.1) 6 160765180144170663739740739734469041235173086068848 = true
            · rw [c5]
              refine wp_if_eq_F k1_100 (by decide) ?_
              exact pers c5 hnl
            · rw [Bool.eq_false_iff.mpr c5]
              refine wp_if_eq_T k1_100 rfl ?_
              refine wp_iload_n k1_111 rfl rfl ?_
              refine wp_if_eq_T k1_112 rfl ?_
              exact bad ((if_neg (hnl False)).trans ((if_neg c5).trans (if_neg fun z => c3 z.1)))
      · rw [if_neg c2, if_neg c2] at h1
        rw [if_neg c2, decide_eq_false c2]
        refine wp_if_ne_F k1_46 rfl ?_
        refine wp_aload_n k1_49 rfl rfl ?_
        exact wp_retS k1_50 rfl ⟨V1, rfl, rfl, hD1, t.1, h1.e1 (er_ne rfl (by decide))⟩
end N_u
