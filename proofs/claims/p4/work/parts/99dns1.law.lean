section N_s
/-! ===== the class, exactly: a law ===== -/
/-- a scene: facts, persons, what they see, laws, first worlds, the real one -/
def SCX (V : hV) (q : Nat) (Gf : Nat → Int32) (cf : Nat) (Gp : Nat → Int32) (cp : Nat) (sn : Nat → Int32) (lw : Nat) (fi re : Int32) : Prop := V.1 (q + 2) = Gf ∧ V.1 (q + 1) 1 = Int32.ofNat cf ∧ cf ≤ 5 ∧ V.1 (q + 4) = Gp ∧ V.1 (q + 3) 1 = Int32.ofNat cp ∧ cp ≤ 5 ∧ V.1 (q + 5) = sn ∧ V.1 q 3 = Int32.ofNat lw ∧ lw ≤ 6 ∧ V.1 q 4 = fi ∧ V.1 q 5 = re
theorem SCX.fr {V W : hV} {q : Nat} {Gf : Nat → Int32} {cf : Nat} {Gp : Nat → Int32} {cp : Nat} {sn : Nat → Int32} {lw : Nat} {fi re : Int32} (h : SCX V q Gf cf Gp cp sn lw fi re) (g : ∀ b, q ≤ b → b ≤ q + 5 → W.1 b = V.1 b) : SCX W q Gf cf Gp cp sn lw fi re := by
  obtain ⟨h1, h2, h3, h4, h5, h6, h7, h8, h9, h10, h11⟩ := h
  have e := g q (by omega) (by omega)
  exact ⟨(g _ (by omega) (by omega)).trans h1, (congrFun (g _ (by omega) (by omega)) 1).trans h2, h3, (g _ (by omega) (by omega)).trans h4, (congrFun (g _ (by omega) (by omega)) 1).trans h5, h6, (g _ (by omega) (by omega)).trans h7, (congrFun e 3).trans h8, h9, (congrFun e 4).trans h10, (congrFun e 5).trans h11⟩
/-- the source at p, with an error or not -/
def SRE (sh : List mm_C) (V : hV) (f : Nat → Int32) (l p : Nat) (er : Bool) : Prop := ∃ e : Int32, SRC sh V f l p e ∧ (e = 0 ↔ er = false)
theorem SRE.fr {sh : List mm_C} {V W : hV} {f : Nat → Int32} {l p : Nat} {er : Bool} (h : SRE sh V f l p er) (g : ∀ b, 65 ≤ b → b ≤ 69 → W.1 b = V.1 b) : SRE sh W f l p er := by
  obtain ⟨e, h1, h2⟩ := h
  exact ⟨e, h1.fr g, h2⟩
theorem SRE.f {sh : List mm_C} {V : hV} {f : Nat → Int32} {l p : Nat} (h : SRE sh V f l p false) : SRC sh V f l p 0 := by
  obtain ⟨e, h1, h2⟩ := h
  rw [h2.mpr rfl] at h1
  exact h1
theorem SRC.e0 {sh : List mm_C} {V : hV} {f : Nat → Int32} {l p : Nat} (h : SRC sh V f l p 0) : SRE sh V f l p false := ⟨0, h, fun _ => rfl, fun _ => rfl⟩
theorem SRC.e1 {sh : List mm_C} {V : hV} {f : Nat → Int32} {l p : Nat} {e : Int32} (h : SRC sh V f l p e) (hn : ¬ e = 0) : SRE sh V f l p true := ⟨e, h, fun z => absurd z hn, fun z => by cases z⟩
def FrD (q : Nat) (V W : hV) : Prop := ∀ b, 79 ≤ b → (b < q ∨ q + 5 < b) → W.1 b = V.1 b
theorem inv_cR {f : Nat → Int32} {l : Nat} {Gf : Nat → Int32} {cf : Nat} {Gp : Nat → Int32} {cp : Nat} {pl : Bool} : ∀ (g : Nat) (needs : Bool) (t : hS), INV t → INV (cRd f l Gf cf Gp cp pl g needs t)
  | 0, _, _, h => h
  | g + 1, needs, t, h => by
    unfold cRd
    by_cases c1 : t.2.1 = true
    · rw [if_pos c1]
      exact h
    · rw [if_neg c1]
      by_cases c2 : needs = true
      · rw [if_pos c2]
        exact inv_cR g _ _ (inv_it h)
      · rw [if_neg c2]
        by_cases c3 : kdE f l t.1 - 256 = 6 ∨ kdE f l t.1 - 256 = 7
        · rw [if_pos c3]
          exact inv_cR g _ _ (inv_jo h c3)
        · rw [if_neg c3]
          by_cases c4 : 0 < t.2.2.2.1
          · rw [if_pos c4]
            exact inv_cR g _ _ (inv_cl h c4)
          · rw [if_neg c4]
            exact h
theorem rl_len {t : hS} (h : INV t) : (rlC t).2.2.2.2.2.length ≤ 60 := by
  obtain ⟨h1, h2, h3, h4⟩ := h
  obtain ⟨r1, r2⟩ := rel_inv (s := 7) (fun x hx => hx) t.2.2.1.length t.2.2.1 t.2.2.2.2.2 rfl
  show (relF 7 t.2.2.1.length t.2.2.1 t.2.2.2.2.2).2.length ≤ 60
  omega
/-- the formula of a law -/
def lwT (f : Nat → Int32) (l : Nat) (Gf : Nat → Int32) (cf : Nat) (Gp : Nat → Int32) (cp p : Nat) : hS := rlC (cRd f l Gf cf Gp cp true 601 true (nxE f l p, false, [], 0, 0, []))
theorem lwT_len (f : Nat → Int32) (l : Nat) (Gf : Nat → Int32) (cf : Nat) (Gp : Nat → Int32) (cp p : Nat) : (lwT f l Gf cf Gp cp p).2.2.2.2.2.length ≤ 60 := rl_len (inv_cR 601 true _ ⟨Nat.zero_le _, Nat.zero_le _, Nat.le_refl 0, rfl⟩)
def tvV (fi : Int32) (fo : hW) : Int32 := match tvF fi fo [] with
  | some [v] => v
  | _ => 0
/-- a law -/
def lwS (f : Nat → Int32) (l : Nat) (Gf : Nat → Int32) (cf : Nat) (Gp : Nat → Int32) (cp p lw : Nat) (fi : Int32) : Nat × Bool × Nat × Int32 := if lw < 6 then (if (lwT f l Gf cf Gp cp p).2.1 = true then ((lwT f l Gf cf Gp cp p).1, true, lw, fi) else ((lwT f l Gf cf Gp cp p).1, decide (tvV fi (lwT f l Gf cf Gp cp p).2.2.2.2.2 = 0), lw + 1, tvV fi (lwT f l Gf cf Gp cp p).2.2.2.2.2)) else (p, true, lw, fi)
def lwPo (sh : List mm_C) (V : hV) (f : Nat → Int32) (l q : Nat) (Gf : Nat → Int32) (cf : Nat) (Gp : Nat → Int32) (cp : Nat) (sn : Nat → Int32) (re : Int32) (r : Nat × Bool × Nat × Int32) : mm_V → mm_H → Prop := fun v g => ∃ W : hV, v = .inl none ∧ g = hH sh W ∧ SRE sh W f l r.1 r.2.1 ∧ SCX W q Gf cf Gp cp sn r.2.2.1 r.2.2.2 re ∧ FrD q V W
theorem s_readLaw {S : ww_S} {sh : List mm_C} {V : hV} {f : Nat → Int32} {l p q : Nat} {Gf : Nat → Int32} {cf : Nat} {Gp : Nat → Int32} {cp : Nat} {sn : Nat → Int32} {lw : Nat} {fi re : Int32} (h : SRC sh V f l p 0) (hX : SCX V q Gf cf Gp cp sn lw fi re) (hk : kDR sh) (hq : kScene sh q) (h100 : 100 ≤ q) (hwf : (lwT f l Gf cf Gp cp p).2.1 = false → ∃ v, tvF fi (lwT f l Gf cf Gp cp p).2.2.2.2.2 [] = some [v]) : EVQ S 7 4 [.ref 79, .ref q] (hH sh V) (lwPo sh V f l q Gf cf Gp cp sn re (lwS f l Gf cf Gp cp p lw fi)) := by
  have ho := h.o
  obtain ⟨x1, x2, x3, x4, x5, x6, x7, x8, x9, x10, x11⟩ := id hX
  refine ev_of P4 rfl ?_
  refine wp_aload_n k4_0 rfl rfl ?_
  refine wq_getR k4_1 hk.1 rfl ?_
  refine wp_getI k4_4 h.S.1.h ho rfl _ h.kd.2.1 ?_
  refine wp_istore_n (L1 := [_, _, _]) k4_7 rfl rfl ?_
  refine wp_aload_n k4_8 rfl rfl ?_
  refine wp_getI k4_9 hq.1.h hq.1.o rfl _ x8 ?_
  refine wp_bipush 6 k4_12 (by decide) ?_
  unfold lwS
  by_cases c6 : lw < 6
  · rw [if_pos c6]
    refine wp_if_icmp_lt_T k4_14 (i_lt (k := lw) (n := 6) c6 (by decide)) ?_
    obtain ⟨V1, E1, h1, hF1⟩ := s_advance (S := S) h
    refine wp_aload_n k4_33 rfl rfl ?_
    refine wq_getR k4_34 hk.1 rfl ?_
    refine wp_cvn (st2 := []) k4_37 E1 (by decide) rfl rfl rfl rfl (by decide) ho (by decide) ?_
    have hX1 : SCX V1 q Gf cf Gp cp sn lw fi re := hX.fr fun b b1 _ => hF1 b (by omega)
    have hN1 : SCN sh V1 q cf cp := ⟨hq, h100, hX1.2.1, x3, hX1.2.2.2.2.1, x6⟩
    obtain ⟨u, g, E2, W, e1, e2, hC, hFr⟩ := s_read (S := S) (pl := true) (a := 72) hN1 (by omega) h1 hk.2.2.1 hk.2.2.2.1 (Or.inl rfl)
    subst e1 e2
    rw [hX1.1, hX1.2.2.2.1] at hC
    have hC : CSt sh W f l 72 (lwT f l Gf cf Gp cp p) := hC
    refine wp_aload_n k4_40 rfl rfl ?_
    refine wq_getR k4_41 hk.1 rfl ?_
    refine wp_aload_n k4_44 rfl rfl ?_
    refine wp_iconst 1 k4_45 (by decide) ?_
    refine wp_aload_n k4_46 rfl rfl ?_
    refine wq_getR k4_47 hk.1 rfl ?_
    refine wp_cvn (st2 := []) k4_50 E2 (by decide) rfl rfl rfl rfl (by decide) hk.2.2.1.1.o (by decide) ?_
    refine wp_aload_n k4_53 rfl rfl ?_
    refine wq_getR k4_54 hk.1 rfl ?_
    refine wp_cv (st2 := []) k4_57 (st_err hC) (by decide) rfl rfl rfl rfl (by decide) ho (by decide) ?_
    have hl60 := lwT_len f l Gf cf Gp cp p
    obtain ⟨t, ht⟩ : ∃ t, lwT f l Gf cf Gp cp p = t := ⟨_, rfl⟩
    rw [ht] at hC hwf hl60 ⊢
    have hFV : ∀ b, 70 ≤ b → b ≠ 72 → b ≠ 73 → b ≠ 74 → b ≠ 76 → b ≠ 77 → b ≠ 78 → W.1 b = V.1 b := fun b b1 b2 b3 b4 b5 b6 b7 => (hFr b (by omega) b5 b6 b7 b2 b3 b4).trans (hF1 b (by omega))
    obtain ⟨e, hS, he, hR, hFo⟩ := id hC
    cases cE : t.2.1 with
    | true =>
      rw [if_pos rfl]
      refine wp_if_eq_F k4_60 (by decide) ?_
      exact wp_retN k4_63 rfl ⟨W, rfl, rfl, ⟨e, hS, by rw [← cE]; exact he⟩, hX.fr fun b b1 _ => hFV b (by omega) (by omega) (by omega) (by omega) (by omega) (by omega) (by omega), fun b b1 _ => hFV b (by omega) (by omega) (by omega) (by omega) (by omega) (by omega) (by omega)⟩
    | false =>
      rw [if_neg (by decide)]
      obtain ⟨v, hv⟩ := hwf cE
      have hv2 : tvV fi t.2.2.2.2.2 = v := by
        unfold tvV
        rw [hv]
      rw [hv2]
      have e0 : e = 0 := he.mpr cE
      rw [e0] at hS
      have hXW : SCX W q Gf cf Gp cp sn lw fi re := hX.fr fun b b1 _ => hFV b (by omega) (by omega) (by omega) (by omega) (by omega) (by omega) (by omega)
      obtain ⟨y1, y2, y3, y4, y5, y6, y7, y8, y9, y10, y11⟩ := hXW
      have g70 : ∀ b, b ≠ 70 → (up W 70 1 fi).1 b = W.1 b := fun b hb => funext fun j => up_ne _ _ (Or.inl hb)
      obtain ⟨W2, E3, hF2⟩ := s_truthIn (S := S) (V := up W 70 1 fi) (k := 70) (hFo.fr fun b b1 b2 => g70 b (by omega)) hl60 hk.2.2.2.2 (by decide) (up_eq _ _ _ _) hv
      have gW2 : ∀ b, b ≠ 70 → b ≠ 75 → W2.1 b = W.1 b := fun b b1 b2 => (hF2 b b2).trans (g70 b b1)
      obtain ⟨W4, hW4⟩ : ∃ W4, up (up W2 q 4 v) q 3 (Int32.ofNat (lw + 1)) = W4 := ⟨_, rfl⟩
      have gW4 : ∀ b, b ≠ 70 → b ≠ 75 → b ≠ q → W4.1 b = W.1 b := fun b b1 b2 b3 => by
        rw [← hW4]
        exact (funext fun j => up_ne _ _ (Or.inl b3)).trans ((funext fun j => up_ne _ _ (Or.inl b3)).trans (gW2 b b1 b2))
      have q3 : W4.1 q 3 = Int32.ofNat (lw + 1) := by
        rw [← hW4]
        exact up_eq _ _ _ _
      have q4 : W4.1 q 4 = v := by
        rw [← hW4]
        exact (up_ne _ _ (Or.inr (by decide))).trans (up_eq _ _ _ _)
      have q5 : W4.1 q 5 = re := by
        rw [← hW4]
        exact (up_ne _ _ (Or.inr (by decide))).trans ((up_ne _ _ (Or.inr (by decide))).trans ((congrFun (gW2 q (by omega) (by omega)) 5).trans y11))
      have hX4 : SCX W4 q Gf cf Gp cp sn (lw + 1) v re := ⟨(gW4 _ (by omega) (by omega) (by omega)).trans y1, (congrFun (gW4 _ (by omega) (by omega) (by omega)) 1).trans y2, y3, (gW4 _ (by omega) (by omega) (by omega)).trans y4, (congrFun (gW4 _ (by omega) (by omega) (by omega)) 1).trans y5, y6, (gW4 _ (by omega) (by omega) (by omega)).trans y7, q3, by omega, q4, q5⟩
      have hS4 : SRC sh W4 f l t.1 0 := hS.fr fun b b1 b2 => gW4 b (by omega) (by omega) (by omega)
      have hD4 : FrD q V W4 := fun b b1 b2 => (gW4 b (by omega) (by omega) (by omega)).trans (hFV b (by omega) (by omega) (by omega) (by omega) (by omega) (by omega) (by omega))
      refine wp_if_eq_T k4_60 rfl ?_
      refine wp_aload_n k4_64 rfl rfl ?_
      refine wq_getR k4_65 hk.1 rfl ?_
      refine wp_aload_n k4_68 rfl rfl ?_
      refine wp_getI k4_69 hq.1.h hq.1.o rfl _ y10 ?_
      refine wp_putI k4_72 hk.2.2.2.2.1.h hk.2.2.2.2.1.o rfl rfl rfl ?_
      refine wp_aload_n k4_75 rfl rfl ?_
      refine wp_aload_n k4_76 rfl rfl ?_
      refine wq_getR k4_77 hk.1 rfl ?_
      refine wp_aload_n k4_80 rfl rfl ?_
      refine wq_getR k4_81 hk.1 rfl ?_
      refine wp_cv (st2 := [_]) k4_84 E3 (by decide) rfl rfl rfl rfl hk.2.2.2.1.1.h hk.2.2.2.1.1.o (by decide) ?_
      refine wp_putI k4_87 hq.1.h hq.1.o rfl rfl rfl ?_
      refine wp_aload_n k4_90 rfl rfl ?_
      refine wp_dup k4_91 rfl ?_
      refine wp_getI k4_92 hq.1.h hq.1.o rfl (Int32.ofNat lw) ((up_ne _ _ (Or.inr (by decide))).trans ((congrFun (gW2 q (by omega) (by omega)) 3).trans y8)) ?_
      refine wp_iconst 1 k4_95 (by decide) ?_
      refine wp_iadd k4_96 ?_
      refine wp_cast (i_succ lw) ?_
      refine wp_putI k4_97 hq.1.h hq.1.o rfl rfl rfl ?_
      rw [hW4]
      refine wp_aload_n k4_100 rfl rfl ?_
      refine wp_getI k4_101 hq.1.h hq.1.o rfl _ q4 ?_
      by_cases c0 : v = 0
      · rw [decide_eq_true c0]
        obtain ⟨W5, E5, h5, hF5⟩ := s_fail (S := S) hS4 (c := 4) (x := Int32.ofNat p)
        refine wp_if_ne_F k4_104 c0 ?_
        refine wp_aload_n k4_107 rfl rfl ?_
        refine wq_getR k4_108 hk.1 rfl ?_
        refine wp_iconst 4 k4_111 (by decide) ?_
        refine wp_iload_n k4_112 rfl rfl ?_
        refine wp_cvn (st2 := []) k4_113 E5 (by decide) rfl rfl rfl rfl (by decide) ho (by decide) ?_
        exact wp_retN k4_116 rfl ⟨W5, rfl, rfl, h5.e1 (er_ne rfl (by decide)), hX4.fr fun b b1 _ => hF5 b (by omega), fun b b1 b2 => (hF5 b (by omega)).trans (hD4 b b1 b2)⟩
      · rw [decide_eq_false c0]
        refine wp_if_ne_T k4_104 c0 ?_
        exact wp_retN k4_116 rfl ⟨W4, rfl, rfl, hS4.e0, hX4, hD4⟩
  · rw [if_neg c6]
    refine wp_if_icmp_lt_F k4_14 (i_nlt (k := lw) (n := 6) (by omega) (by omega)) ?_
    obtain ⟨W, E, h1, hF⟩ := s_fail (S := S) h (c := 3) (x := Int32.ofNat p)
    refine wp_aload_n k4_17 rfl rfl ?_
    refine wq_getR k4_18 hk.1 rfl ?_
    refine wp_iconst 3 k4_21 (by decide) ?_
    refine wp_aload_n k4_22 rfl rfl ?_
    refine wq_getR k4_23 hk.1 rfl ?_
    refine wp_getI k4_26 h.S.1.h ho rfl _ h.kd.2.1 ?_
    refine wp_cvn (st2 := []) k4_29 E (by decide) rfl rfl rfl rfl (by decide) ho (by decide) ?_
    exact wp_retN k4_32 rfl ⟨W, rfl, rfl, h1.e1 (er_ne rfl (by decide)), hX.fr fun b b1 _ => hF b (by omega), fun b b1 _ => hF b (by omega)⟩
end N_s
