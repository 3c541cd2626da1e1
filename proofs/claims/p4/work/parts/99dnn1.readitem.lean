section N_n
/-! ===== the class, exactly: an item read ===== -/
/-- the place, whether there was an error, what waits, open parentheses, nodes, what was read -/
abbrev hS : Type := Nat × Bool × hW × Nat × Nat × hW
def CSt (sh : List mm_C) (V : hV) (f : Nat → Int32) (l a : Nat) (t : hS) : Prop := ∃ e : Int32, SRC sh V f l t.1 e ∧ (e = 0 ↔ t.2.1 = false) ∧ FRS sh V t.2.2.1 t.2.2.2.1 t.2.2.2.2.1 ∧ FOS sh V a t.2.2.2.2.2
def INV (t : hS) : Prop := t.2.2.2.1 ≤ 8 ∧ t.2.2.2.2.1 ≤ 60 ∧ npF t.2.2.1 + t.2.2.2.2.2.length ≤ t.2.2.2.2.1 ∧ t.2.2.1.length = npF t.2.2.1 + t.2.2.2.1
theorem np_app (ws : hW) (x : Int32 × Int32) : npF (ws ++ [x]) = npF ws + if x.1 ≤ 7 then 1 else 0 := by
  unfold npF
  rw [List.filter_append, List.length_append]
  congr 1
  rw [List.filter_cons]
  by_cases c : x.1 ≤ 7
  · rw [if_pos (decide_eq_true c), if_pos c]
    rfl
  · rw [if_neg (by rw [decide_eq_false c]; decide), if_neg c]
    rfl
theorem rel_inv {s : Int32} (hs : ∀ x : Int32, x ≤ s → x ≤ 7) : ∀ (n : Nat) (ws fo : hW), ws.length = n → npF (relF s n ws fo).1 + (relF s n ws fo).2.length = npF ws + fo.length ∧ (relF s n ws fo).1.length + (relF s n ws fo).2.length = n + fo.length
  | 0, ws, fo, h => ⟨rfl, by
    show ws.length + fo.length = _
    rw [h]⟩
  | n + 1, ws, fo, h => by
    obtain ⟨x, hx⟩ : ∃ x, ws[n]? = some x := ⟨_, List.getElem?_eq_getElem (by omega)⟩
    unfold relF
    rw [hx]
    dsimp only
    by_cases c : x.1 ≤ s
    · rw [if_pos c]
      have h1 := np_take h hx (hs _ c)
      obtain ⟨h2, h3⟩ := rel_inv hs n (ws.take n) (fo ++ [x]) (by rw [List.length_take]; omega)
      rw [List.length_append, List.length_singleton] at h2 h3
      exact ⟨by omega, by omega⟩
    · rw [if_neg c]
      exact ⟨rfl, by show ws.length + fo.length = _; omega⟩
/-- what readItem does -/
def itC (f : Nat → Int32) (l : Nat) (Gf : Nat → Int32) (cf : Nat) (Gp : Nat → Int32) (cp : Nat) (pl : Bool) (t : hS) : Bool × hS := match t with
  | (p, _, ws, op, nd, fo) => if kdE f l p = 40 then (true, if op < 8 then (nxE f l p, false, ws ++ [(8, 0)], op + 1, nd, fo) else (p, true, ws, op, nd, fo))
    else if (¬ kdE f l p - 256 < 1 ∧ ¬ 5 < kdE f l p - 256) ∧ (kdE f l p - 256 = 1 ∨ pl = false) then (true, if nd < 60 then (if kdE f l p - 256 = 2 ∨ kdE f l p - 256 = 3 then (if kwN f l (nxE f l p) Gp cp = -1 then (nxE f l p, true, ws ++ [(kdE f l p - 256, -1)], op, nd + 1, fo) else (nxE f l (nxE f l p), false, ws ++ [(kdE f l p - 256, kwN f l (nxE f l p) Gp cp)], op, nd + 1, fo)) else (nxE f l p, false, ws ++ [(kdE f l p - 256, 0)], op, nd + 1, fo)) else (p, true, ws, op, nd, fo))
    else (false, if kwN f l p Gf cf = -1 then (p, true, ws, op, nd, fo) else if nd < 60 then (nxE f l p, false, ws, op, nd + 1, fo ++ [(0, kwN f l p Gf cf)]) else (p, true, ws, op, nd, fo))
def FrR (a : Nat) (V W : hV) : Prop := ∀ b, b ≠ 65 → b ≠ 76 → b ≠ 77 → b ≠ 78 → b ≠ a → b ≠ a + 1 → b ≠ a + 2 → W.1 b = V.1 b
def itP (sh : List mm_C) (V : hV) (f : Nat → Int32) (l a : Nat) (r : Bool × hS) : mm_V → mm_H → Prop := fun v g => ∃ W : hV, v = .inl (some (.int (bI r.1))) ∧ g = hH sh W ∧ CSt sh W f l a r.2 ∧ FrR a V W
theorem er_ne {e c : Int32} (h : e = 0) (hc : c ≠ 0) : ¬ erN e c = 0 := by
  unfold erN
  rw [if_pos h]
  exact hc
/-- the names of a scene -/
def SCN (sh : List mm_C) (V : hV) (q cf cp : Nat) : Prop := kScene sh q ∧ 100 ≤ q ∧ V.1 (q + 1) 1 = Int32.ofNat cf ∧ cf ≤ 5 ∧ V.1 (q + 3) 1 = Int32.ofNat cp ∧ cp ≤ 5
theorem s_readItem {S : ww_S} {sh : List mm_C} {V : hV} {f : Nat → Int32} {l p a q cf cp op nd : Nat} {ws fo : hW} {pl : Bool} (h : CSt sh V f l a (p, false, ws, op, nd, fo)) (hI : INV (p, false, ws, op, nd, fo)) (hq : SCN sh V q cf cp) (haq : a + 2 < q) : EVQ S 5 18 [.ref 76, .ref q, .int (bI pl), .ref a] (hH sh V) (itP sh V f l a (itC f l (V.1 (q + 2)) cf (V.1 (q + 4)) cp pl (p, false, ws, op, nd, fo))) := by
  obtain ⟨e, hS, he, hr, hf⟩ := h
  obtain rfl : e = 0 := he.mpr rfl
  have hS : SRC sh V f l p 0 := hS
  have hr : FRS sh V ws op nd := hr
  have hf : FOS sh V a fo := hf
  obtain ⟨i1, i2, i3, i4⟩ := hI
  have i1 : op ≤ 8 := i1
  have i2 : nd ≤ 60 := i2
  have i3 : npF ws + fo.length ≤ nd := i3
  have i4 : ws.length = npF ws + op := i4
  obtain ⟨hk, hq1, hcf, hcf5, hcp, hcp5⟩ := hq
  have ha := hf.2.1
  refine ev_of P18 rfl ?_
  refine wp_aload_n k18_0 rfl rfl ?_
  refine wq_getR k18_1 hr.1.1 rfl ?_
  refine wp_getI k18_4 hS.S.1.h hS.o rfl _ hS.kd.1 ?_
  refine wp_sipush 256 k18_7 (by decide) ?_
  refine wp_isub k18_10 ?_
  refine wp_istore (L1 := [_, _, _, _, _, _]) k18_11 rfl rfl ?_
  refine wp_aload_n k18_13 rfl rfl ?_
  refine wq_getR k18_14 hr.1.1 rfl ?_
  refine wp_getI k18_17 hS.S.1.h hS.o rfl _ hS.kd.1 ?_
  refine wp_bipush 40 k18_20 (by decide) ?_
  unfold itC
  dsimp only
  by_cases c40 : kdE f l p = 40
  · rw [if_pos c40]
    obtain ⟨W, E, h2, h3, h4⟩ := s_readOpen (S := S) hS hr i1 (fun _ => by omega)
    refine wp_if_icmp_ne_F k18_22 c40 ?_
    refine wp_aload_n k18_25 rfl rfl ?_
    refine wp_cvn (st2 := []) k18_26 E (by decide) rfl rfl rfl rfl (by decide) hr.1.1.o (by decide) ?_
    refine wp_iconst 1 k18_29 (by decide) ?_
    have hfW : FOS sh W a fo := hf.fr fun b b1 b2 => h4 b (by omega) (by omega) (by omega) (by omega)
    have hFr : FrR a V W := fun b b1 b2 b3 b4 _ _ _ => h4 b b1 b2 b3 b4
    by_cases c8 : op < 8
    · rw [if_pos c8, if_pos c8] at h2 h3
      rw [if_pos c8]
      exact wp_retZ (b := true) k18_30 rfl ⟨W, rfl, rfl, ⟨0, h2, ⟨fun _ => rfl, fun _ => rfl⟩, h3, hfW⟩, hFr⟩
    · rw [if_neg c8, if_neg c8] at h2 h3
      rw [if_neg c8]
      exact wp_retZ (b := true) k18_30 rfl ⟨W, rfl, rfl, ⟨erN 0 1, h2, ⟨fun z => absurd z (by decide), fun z => (by cases z)⟩, h3, hfW⟩, hFr⟩
  rw [if_neg c40]
  refine wp_if_icmp_ne_T k18_22 c40 ?_
  refine wp_iload k18_31 rfl rfl ?_
  refine wp_cs (st2 := []) k18_33 s_isPrefix (by decide) rfl rfl rfl (by decide) ?_
  have tail : ¬ ((¬ kdE f l p - 256 < 1 ∧ ¬ 5 < kdE f l p - 256) ∧ (kdE f l p - 256 = 1 ∨ pl = false)) → WP S 4 mm_m18 87 [some (.ref 76), some (.ref q), some (.int (bI pl)), some (.ref a), some (.int (kdE f l p - 256)), none] [] (hH sh V) (itP sh V f l a (if (¬ kdE f l p - 256 < 1 ∧ ¬ 5 < kdE f l p - 256) ∧ (kdE f l p - 256 = 1 ∨ pl = false) then (true, if nd < 60 then (if kdE f l p - 256 = 2 ∨ kdE f l p - 256 = 3 then (if kwN f l (nxE f l p) (V.1 (q + 4)) cp = -1 then (nxE f l p, true, ws ++ [(kdE f l p - 256, -1)], op, nd + 1, fo) else (nxE f l (nxE f l p), false, ws ++ [(kdE f l p - 256, kwN f l (nxE f l p) (V.1 (q + 4)) cp)], op, nd + 1, fo)) else (nxE f l p, false, ws ++ [(kdE f l p - 256, 0)], op, nd + 1, fo)) else (p, true, ws, op, nd, fo)) else (false, if kwN f l p (V.1 (q + 2)) cf = -1 then (p, true, ws, op, nd, fo) else if nd < 60 then (nxE f l p, false, ws, op, nd + 1, fo ++ [(0, kwN f l p (V.1 (q + 2)) cf)]) else (p, true, ws, op, nd, fo)))) := by
    intro cn
    rw [if_neg cn]
    obtain ⟨U, E, hFU, q9, hq9, h3⟩ := s_known (S := S) hS hk.2.1 (by omega) hcf hcf5
    have hrU : FRS sh U ws op nd := hr.fr fun b b1 b2 => hFU b (by omega)
    have hfU : FOS sh U a fo := hf.fr fun b b1 b2 => hFU b (by omega)
    refine wp_aload_n k18_87 rfl rfl ?_
    refine wq_getR k18_88 hr.1.1 rfl ?_
    refine wp_aload_n k18_91 rfl rfl ?_
    refine wq_getR k18_92 hk.1 rfl ?_
    refine wp_cv (st2 := []) k18_95 E (by decide) rfl rfl rfl rfl (by decide) hS.o (by decide) ?_
    refine wp_istore (L1 := [_, _, _, _, _, _]) k18_98 rfl rfl ?_
    refine wp_iload k18_100 rfl rfl ?_
    refine wp_iconst (-1) k18_102 (by decide) ?_
    by_cases cm : kwN f l p (V.1 (q + 2)) cf = -1
    · rw [if_pos cm] at h3
      rw [if_pos cm]
      refine wp_if_icmp_eq_T k18_103 cm ?_
      refine wp_iconst 0 k18_120 (by decide) ?_
      exact wp_retZ (b := false) k18_121 rfl ⟨U, rfl, rfl, ⟨_, h3, ⟨fun z => absurd z (er_ne rfl hq9), fun z => (by cases z)⟩, hrU, hfU⟩, fun b b1 _ _ _ _ _ _ => hFU b b1⟩
    · rw [if_neg cm] at h3
      rw [if_neg cm]
      obtain ⟨U2, E2, h4, h5, h6⟩ := s_takeNode (S := S) h3 hrU i2
      have hfU2 : FOS sh U2 a fo := hfU.fr fun b b1 b2 => h6 b (by omega) (by omega)
      refine wp_if_icmp_eq_F k18_103 cm ?_
      refine wp_aload_n k18_106 rfl rfl ?_
      refine wp_cv (st2 := []) k18_107 E2 (by decide) rfl rfl rfl rfl (by decide) hr.1.1.o (by decide) ?_
      by_cases c60 : nd < 60
      · rw [if_pos c60, if_pos c60] at h4
        rw [if_pos c60] at h5
        rw [decide_eq_true c60, if_pos c60]
        obtain ⟨W, EA, hfW, hg⟩ := s_fadd (S := S) hfU2 (by omega) (x := 0) (y := kwN f l p (V.1 (q + 2)) cf)
        refine wp_if_eq_F k18_110 (by decide) ?_
        refine wp_aload_n k18_113 rfl rfl ?_
        refine wp_iconst 0 k18_114 (by decide) ?_
        refine wp_iload k18_115 rfl rfl ?_
        refine wp_cvn (st2 := []) k18_117 EA (by decide) rfl rfl rfl rfl hf.1.1.h hf.1.1.o (by decide) ?_
        refine wp_iconst 0 k18_120 (by decide) ?_
        exact wp_retZ (b := false) k18_121 rfl ⟨W, rfl, rfl, ⟨0, h4.fr fun b b1 b2 => hg b (by omega) (by omega) (by omega), ⟨fun _ => rfl, fun _ => rfl⟩, h5.fr fun b b1 b2 => hg b (by omega) (by omega) (by omega), hfW⟩, fun b b1 b2 b3 b4 b5 b6 b7 => (hg b b5 b6 b7).trans ((h6 b b1 b2).trans (hFU b b1))⟩
      · rw [if_neg c60, if_neg c60] at h4
        rw [if_neg c60] at h5
        rw [decide_eq_false c60, if_neg c60]
        refine wp_if_eq_T k18_110 rfl ?_
        refine wp_iconst 0 k18_120 (by decide) ?_
        exact wp_retZ (b := false) k18_121 rfl ⟨U2, rfl, rfl, ⟨_, h4, ⟨fun z => absurd z (er_ne rfl (by decide)), fun z => (by cases z)⟩, h5, hfU2⟩, fun b b1 b2 _ _ _ _ _ => (h6 b b1 b2).trans (hFU b b1)⟩
  by_cases cp1 : ¬ kdE f l p - 256 < 1 ∧ ¬ 5 < kdE f l p - 256
  · rw [decide_eq_true cp1]
    refine wp_if_eq_F k18_36 (by decide) ?_
    refine wp_iload k18_39 rfl rfl ?_
    refine wp_iconst 1 k18_41 (by decide) ?_
    have go : (kdE f l p - 256 = 1 ∨ pl = false) → WP S 4 mm_m18 49 [some (.ref 76), some (.ref q), some (.int (bI pl)), some (.ref a), some (.int (kdE f l p - 256)), none] [] (hH sh V) (itP sh V f l a (if (¬ kdE f l p - 256 < 1 ∧ ¬ 5 < kdE f l p - 256) ∧ (kdE f l p - 256 = 1 ∨ pl = false) then (true, if nd < 60 then (if kdE f l p - 256 = 2 ∨ kdE f l p - 256 = 3 then (if kwN f l (nxE f l p) (V.1 (q + 4)) cp = -1 then (nxE f l p, true, ws ++ [(kdE f l p - 256, -1)], op, nd + 1, fo) else (nxE f l (nxE f l p), false, ws ++ [(kdE f l p - 256, kwN f l (nxE f l p) (V.1 (q + 4)) cp)], op, nd + 1, fo)) else (nxE f l p, false, ws ++ [(kdE f l p - 256, 0)], op, nd + 1, fo)) else (p, true, ws, op, nd, fo)) else (false, if kwN f l p (V.1 (q + 2)) cf = -1 then (p, true, ws, op, nd, fo) else if nd < 60 then (nxE f l p, false, ws, op, nd + 1, fo ++ [(0, kwN f l p (V.1 (q + 2)) cf)]) else (p, true, ws, op, nd, fo)))) := by
      intro cj
      rw [if_pos ⟨cp1, cj⟩]
      obtain ⟨U, E, h4, h5, h6⟩ := s_takeNode (S := S) hS hr i2
      have hfU : FOS sh U a fo := hf.fr fun b b1 b2 => h6 b (by omega) (by omega)
      refine wp_aload_n k18_49 rfl rfl ?_
      refine wp_cv (st2 := []) k18_50 E (by decide) rfl rfl rfl rfl (by decide) hr.1.1.o (by decide) ?_
      by_cases c60 : nd < 60
      · rw [if_pos c60, if_pos c60] at h4
        rw [if_pos c60] at h5
        rw [decide_eq_true c60, if_pos c60]
        refine wp_if_eq_F k18_53 (by decide) ?_
        refine wp_aload_n k18_56 rfl rfl ?_
        refine wp_iload k18_57 rfl rfl ?_
        refine wp_iload k18_59 rfl rfl ?_
        refine wp_cs (st2 := [_, _]) k18_61 s_namesPerson (by decide) rfl rfl rfl (by decide) ?_
        by_cases cn : kdE f l p - 256 = 2 ∨ kdE f l p - 256 = 3
        · rw [decide_eq_true cn, if_pos cn]
          have hcpU : U.1 (q + 3) 1 = Int32.ofNat cp := (congrFun (h6 (q + 3) (by omega) (by omega)) 1).trans hcp
          have hGU : U.1 (q + 3 + 1) = V.1 (q + 4) := h6 (q + 4) (by omega) (by omega)
          obtain ⟨U2, E2, hF2, q9, hq9, h7⟩ := s_takeKnown (S := S) h4 hk.2.2.1 (by omega) hcpU hcp5
          rw [hGU] at E2 h7
          have h5' : FRS sh U2 ws op (nd + 1) := h5.fr fun b b1 b2 => hF2 b (by omega)
          obtain ⟨W, EH, hW, hg⟩ := s_hold (S := S) h5' (by omega) (s := kdE f l p - 256) (n := kwN f l (nxE f l p) (V.1 (q + 4)) cp)
          have hfW : FOS sh W a fo := hfU.fr fun b b1 b2 => (hg b (by omega) (by omega) (by omega)).trans (hF2 b (by omega))
          have hFr : FrR a V W := fun b b1 b2 b3 b4 _ _ _ => (hg b b2 b3 b4).trans ((hF2 b b1).trans (h6 b b1 b2))
          refine wp_if_eq_F k18_64 (by decide) ?_
          refine wp_aload_n k18_67 rfl rfl ?_
          refine wq_getR k18_68 hr.1.1 rfl ?_
          refine wp_aload_n k18_71 rfl rfl ?_
          refine wq_getR k18_72 hk.1 rfl ?_
          refine wp_cv (st2 := [_, _]) k18_75 E2 (by decide) rfl rfl rfl rfl (by decide) hS.o (by decide) ?_
          refine wp_goto k18_78 ?_
          refine wp_cvn (st2 := []) k18_82 EH (by decide) rfl rfl rfl rfl (by decide) hr.1.1.o (by decide) ?_
          refine wp_iconst 1 k18_85 (by decide) ?_
          by_cases cm : kwN f l (nxE f l p) (V.1 (q + 4)) cp = -1
          · rw [if_pos cm, if_pos cm] at h7
            rw [if_pos cm]
            rw [cm] at hW
            exact wp_retZ (b := true) k18_86 rfl ⟨W, rfl, rfl, ⟨_, h7.fr fun b b1 b2 => hg b (by omega) (by omega) (by omega), ⟨fun z => absurd z (er_ne rfl hq9), fun z => (by cases z)⟩, hW, hfW⟩, hFr⟩
          · rw [if_neg cm, if_neg cm] at h7
            rw [if_neg cm]
            exact wp_retZ (b := true) k18_86 rfl ⟨W, rfl, rfl, ⟨0, h7.fr fun b b1 b2 => hg b (by omega) (by omega) (by omega), ⟨fun _ => rfl, fun _ => rfl⟩, hW, hfW⟩, hFr⟩
        · rw [decide_eq_false cn, if_neg cn]
          obtain ⟨W, EH, hW, hg⟩ := s_hold (S := S) h5 (by omega) (s := kdE f l p - 256) (n := 0)
          refine wp_if_eq_T k18_64 rfl ?_
          refine wp_iconst 0 k18_81 (by decide) ?_
          refine wp_cvn (st2 := []) k18_82 EH (by decide) rfl rfl rfl rfl (by decide) hr.1.1.o (by decide) ?_
          refine wp_iconst 1 k18_85 (by decide) ?_
          exact wp_retZ (b := true) k18_86 rfl ⟨W, rfl, rfl, ⟨0, h4.fr fun b b1 b2 => hg b (by omega) (by omega) (by omega), ⟨fun _ => rfl, fun _ => rfl⟩, hW, hfU.fr fun b b1 b2 => hg b (by omega) (by omega) (by omega)⟩, fun b b1 b2 b3 b4 _ _ _ => (hg b b2 b3 b4).trans (h6 b b1 b2)⟩
      · rw [if_neg c60, if_neg c60] at h4
        rw [if_neg c60] at h5
        rw [decide_eq_false c60, if_neg c60]
        refine wp_if_eq_T k18_53 rfl ?_
        refine wp_iconst 1 k18_85 (by decide) ?_
        exact wp_retZ (b := true) k18_86 rfl ⟨U, rfl, rfl, ⟨_, h4, ⟨fun z => absurd z (er_ne rfl (by decide)), fun z => (by cases z)⟩, h5, hfU⟩, fun b b1 b2 _ _ _ _ _ => h6 b b1 b2⟩
    by_cases c1 : kdE f l p - 256 = 1
    · refine wp_if_icmp_eq_T k18_42 c1 ?_
      exact go (Or.inl c1)
    · refine wp_if_icmp_eq_F k18_42 c1 ?_
      refine wp_iload_n k18_45 rfl rfl ?_
      cases pl with
      | false =>
        refine wp_if_ne_F k18_46 rfl ?_
        exact go (Or.inr rfl)
      | true =>
        refine wp_if_ne_T k18_46 (by decide) ?_
        exact tail (fun z => z.2.elim c1 (fun y => by cases y))
  · rw [decide_eq_false cp1]
    refine wp_if_eq_T k18_36 rfl ?_
    exact tail (fun z => cp1 z.1)
end N_n
