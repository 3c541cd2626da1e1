section N_v
/-! ===== the class, exactly: a description, whole ===== -/
def z0 : Nat → Int32 := fun _ => 0
theorem sv_old {V : hV} {a b : Nat} (hb : b < a) : (scV (clr V a) a).1 b = V.1 b := by
  funext j
  refine (up_ne _ _ (Or.inl (by omega))).trans ?_
  unfold clr
  dsimp only
  rw [if_neg (by omega), if_neg (by omega), if_neg (by omega), if_neg (by omega), if_neg (by omega), if_neg (by omega)]
theorem sv_a {V : hV} {a j : Nat} (hj : j ≠ 5) : (scV (clr V a) a).1 a j = 0 := by
  refine (up_ne _ _ (Or.inr hj)).trans ?_
  unfold clr
  dsimp only
  rw [if_neg (by omega), if_neg (by omega), if_neg (by omega), if_neg (by omega), if_neg (by omega), if_pos rfl]
theorem sv_5 {V : hV} {a : Nat} : (scV (clr V a) a).1 a 5 = -1 := up_eq _ _ _ _
theorem sv_n {V : hV} {a k : Nat} (h1 : 1 ≤ k) (h5 : k ≤ 5) : (scV (clr V a) a).1 (a + k) = z0 := by
  funext j
  refine (up_ne _ _ (Or.inl (by omega))).trans ?_
  unfold clr
  dsimp only
  obtain rfl | rfl | rfl | rfl | rfl : k = 1 ∨ k = 2 ∨ k = 3 ∨ k = 4 ∨ k = 5 := by omega
  · rw [if_neg (by omega), if_neg (by omega), if_neg (by omega), if_neg (by omega), if_pos rfl]
    rfl
  · rw [if_neg (by omega), if_neg (by omega), if_neg (by omega), if_pos rfl]
    rfl
  · rw [if_neg (by omega), if_neg (by omega), if_pos rfl]
    rfl
  · rw [if_neg (by omega), if_pos rfl]
    rfl
  · rw [if_pos rfl]
    rfl
/-- the class's reading of a description -/
def dsA (f : Nat → Int32) (l : Nat) : Option dS := if (fsM f l z0 (sk f l 0)).2.1 = true then none else dRd f l (fsM f l z0 (sk f l 0)).2.2.1 (fsM f l z0 (sk f l 0)).2.2.2 601 ((fsM f l z0 (sk f l 0)).1, z0, 0, z0, 0, wsN (fsM f l z0 (sk f l 0)).2.2.2, -1)
def dsQ (sh : List mm_C) (V : hV) (f : Nat → Int32) (l q : Nat) : mm_V → mm_H → Prop := fun v g => ∃ W : hV, v = .inl (some (.ref q)) ∧ g = hH (sh ++ scL q) W ∧ (∀ b, 79 ≤ b → b < q → W.1 b = V.1 b) ∧ dsM (sh ++ scL q) W f l q (fsM f l z0 (sk f l 0)).2.2.1 (fsM f l z0 (sk f l 0)).2.2.2 (dsA f l)
theorem s_readD {S : ww_S} {sh : List mm_C} {V : hV} {f : Nat → Int32} {l : Nat} (h : SoT sh V f l) (hk0 : kDR sh) (hl : 260 ≤ sh.length) (hW : WI sh) (hB : SBok sh V) (hwf : WFR f l) : EVQ S 9 1 [.ref 79] (hH sh V) (dsQ sh V f l (64 + sh.length)) := by
  have hq := (sc_fx hl hW hB).1
  have ex := sc_ex sh (scL (64 + sh.length))
  have E := e_scene (S := S) (sh := sh) (V := clr V (64 + sh.length)) rfl
  have hk : kDR (sh ++ scL (64 + sh.length)) := hk0.ex ex
  have hT : SoT (sh ++ scL (64 + sh.length)) (scV (clr V (64 + sh.length)) (64 + sh.length)) f l := ⟨h.1.ex ex, (congrFun (sv_old (by omega)) 4).trans h.2.1, h.2.2.1, (sv_old (by omega)).trans h.2.2.2⟩
  refine ev_of P1 rfl ?_
  refine wp_new (a := 64 + sh.length) (fs := [.null, .null, .null, .int 0, .int 0, .int 0]) k1_0 rfl rfl (h0_of rfl) ?_
  refine wp_dup k1_3 rfl ?_
  refine wp_cin (st2 := [_]) k1_4 E (by decide) rfl rfl rfl rfl (by omega) (by decide) ?_
  refine wp_astore_n (L1 := [_, _, _, _]) k1_7 rfl rfl ?_
  obtain ⟨q, hqq⟩ : ∃ q, 64 + sh.length = q := ⟨_, rfl⟩
  rw [hqq] at hq hk hT ⊢
  have h100 : 100 ≤ q := by omega
  obtain ⟨V1, E1, h1, hF1⟩ := s_begin (S := S) hT
  obtain ⟨V0, hV0⟩ : ∃ V0, scV (clr V q) q = V0 := ⟨_, rfl⟩
  have o : ∀ b, b < q → V0.1 b = V.1 b := fun b hb => by rw [← hV0]; exact sv_old hb
  have n : ∀ k, 1 ≤ k → k ≤ 5 → V0.1 (q + k) = z0 := fun k k1 k2 => by rw [← hV0]; exact sv_n k1 k2
  have a0 : ∀ j, j ≠ 5 → V0.1 q j = 0 := fun j hj => by rw [← hV0]; exact sv_a hj
  have a5 : V0.1 q 5 = -1 := by rw [← hV0]; exact sv_5
  rw [hV0] at E1 hF1 ⊢
  have g1 : ∀ b, 70 ≤ b → V1.1 b = V0.1 b := fun b hb => hF1 b (by omega) (by omega) (by omega) (by omega)
  have ho := h1.o
  refine wp_aload_n k1_8 rfl rfl ?_
  refine wq_getR k1_9 hk.1 rfl ?_
  refine wp_cvn (st2 := []) k1_12 E1 (by decide) rfl rfl rfl rfl (by decide) ho (by decide) ?_
  obtain ⟨u, gg, E2, W, e1, e2, r1, r2, r3, r4⟩ := s_readFacts (S := S) h1 hk hq h100 ((congrFun (g1 _ (by omega)) 1).trans (congrFun (n 1 (by omega) (by omega)) 1))
  subst e1 e2
  rw [(g1 (q + 2) (by omega)).trans (n 2 (by omega) (by omega))] at r1 r2
  refine wp_aload_n k1_15 rfl rfl ?_
  refine wp_aload_n k1_16 rfl rfl ?_
  refine wp_cvn (st2 := []) k1_17 E2 (by decide) rfl rfl rfl rfl (by decide) hk.1.o (by decide) ?_
  refine wp_iconst 0 k1_20 (by decide) ?_
  refine wp_istore_n (L1 := [_, _, _, _]) k1_21 rfl rfl ?_
  unfold dsQ dsA
  obtain ⟨t, ht⟩ : ∃ t, fsM f l z0 (sk f l 0) = t := ⟨_, rfl⟩
  rw [ht] at r1 r2 ⊢
  obtain ⟨e, y1, y2, y3, y4, y5⟩ := r1
  have gW : ∀ b, 70 ≤ b → b ≠ q → b ≠ q + 1 → b ≠ q + 2 → W.1 b = V0.1 b := fun b b1 b2 b3 b4 => (r4 b (by omega) b2 b3 b4).trans (g1 b b1)
  have hX : SCX W q t.2.2.1 t.2.2.2 z0 0 z0 0 (wsN t.2.2.2) (-1) := ⟨y5, y3, y4, (gW _ (by omega) (by omega) (by omega) (by omega)).trans (n 4 (by omega) (by omega)), (congrFun (gW _ (by omega) (by omega) (by omega) (by omega)) 1).trans (congrFun (n 3 (by omega) (by omega)) 1), by omega, (gW _ (by omega) (by omega) (by omega) (by omega)).trans (n 5 (by omega) (by omega)), (r3 3 (by decide)).trans ((congrFun (g1 q (by omega)) 3).trans (a0 3 (by decide))), by omega, r2, (r3 5 (by decide)).trans ((congrFun (g1 q (by omega)) 5).trans a5)⟩
  have hfr : ∀ {U : hV}, FrD q W U → ∀ b, 79 ≤ b → b < q → U.1 b = V.1 b := fun {U} g b b1 b2 => (g b b1 (Or.inl b2)).trans ((gW b (by omega) (by omega) (by omega) (by omega)).trans (o b b2))
  obtain ⟨L1, L2⟩ := s_lines (S := S) (V := W) (Gf := t.2.2.1) (cf := t.2.2.2) hk hq h100 hwf
  cases cE : t.2.1 with
  | true =>
    rw [if_pos rfl]
    refine WP.imp (L2 t.1 0 W _ _ _ _ _ _ _ (by omega) ⟨e, y1, by rw [← cE]; exact y2⟩ hX (FrD.r q W)) ?_
    intro v g ⟨U, z1, z2, z3, z4⟩
    exact ⟨U, z1, z2, hfr z3, z4⟩
  | false =>
    rw [if_neg (by decide)]
    have e0 : e = 0 := y2.mpr cE
    rw [e0] at y1
    refine WP.imp (L1 601 0 (t.1, z0, 0, z0, 0, wsN t.2.2.2, -1) W _ rfl y1 hX (FrD.r q W)) ?_
    intro v g ⟨U, z1, z2, z3, z4⟩
    exact ⟨U, z1, z2, hfr z3, z4⟩
end N_v
