section N_i
/-! ===== the class, exactly: sets of names ===== -/
theorem s_isIn {S : ww_S} {h : mm_H} {s : Int32} {n : Nat} (hn : n < 32) : EV S 1 159 [.int s, .int (Int32.ofNat n)] h (.inl (some (.int (bI (hasB s (Int32.ofNat n)))))) h := by
  refine ev_qe P159 rfl ?_
  refine wp_iload_n k159_0 rfl rfl ?_
  refine wp_if_lt_F k159_1 (i_nlt (k := n) (n := 0) (Nat.zero_le _) (by omega)) ?_
  refine wp_iload_n k159_4 rfl rfl ?_
  refine wp_bipush 32 k159_5 (by decide) ?_
  refine wp_if_icmp_ge_F k159_7 (i_lt (k := n) (n := 32) hn (by decide)) ?_
  refine wp_iload_n k159_10 rfl rfl ?_
  refine wp_iload_n k159_11 rfl rfl ?_
  refine wp_iushr k159_12 ?_
  refine wp_iconst 1 k159_13 (by decide) ?_
  refine wp_iand k159_14 ?_
  refine wp_iconst 1 k159_15 (by decide) ?_
  unfold hasB
  by_cases c : (s.toUInt32 >>> ((Int32.ofNat n).toUInt32 &&& Int32.toUInt32 31)).toInt32 &&& 1 = 1
  · rw [decide_eq_true c]
    refine wp_if_icmp_ne_F k159_16 c ?_
    refine wp_iconst 1 k159_19 (by decide) ?_
    refine wp_goto k159_20 ?_
    exact wp_retz k159_24 rfl rfl rfl
  · rw [decide_eq_false c]
    refine wp_if_icmp_ne_T k159_16 c ?_
    refine wp_iconst 0 k159_23 (by decide) ?_
    exact wp_retz k159_24 rfl rfl rfl
theorem s_isInN {S : ww_S} {h : mm_H} {s : Int32} : EV S 1 159 [.int s, .int (-1)] h (.inl (some (.int (bI false)))) h := by
  refine ev_qe P159 rfl ?_
  refine wp_iload_n k159_0 rfl rfl ?_
  refine wp_if_lt_T k159_1 (by decide) ?_
  refine wp_iconst 0 k159_23 (by decide) ?_
  exact wp_retz k159_24 rfl rfl rfl
theorem s_setOf {S : ww_S} {h : mm_H} {n : Nat} (hn : n < 32) : EV S 1 160 [.int (Int32.ofNat n)] h (.inl (some (.int (1 <<< (Int32.ofNat n &&& 31))))) h := by
  refine ev_qe P160 rfl ?_
  refine wp_iload_n k160_0 rfl rfl ?_
  refine wp_if_lt_F k160_1 (i_nlt (k := n) (n := 0) (Nat.zero_le _) (by omega)) ?_
  refine wp_iload_n k160_4 rfl rfl ?_
  refine wp_bipush 32 k160_5 (by decide) ?_
  refine wp_if_icmp_ge_F k160_7 (i_lt (k := n) (n := 32) hn (by decide)) ?_
  refine wp_iconst 1 k160_10 (by decide) ?_
  refine wp_iload_n k160_11 rfl rfl ?_
  refine wp_ishl k160_12 ?_
  refine wp_goto k160_13 ?_
  exact wp_reti k160_17 rfl rfl rfl
/-- names taken as a set: the set, the place behind, whether there was an error -/
def tsF (f : Nat → Int32) (l : Nat) (G : Nat → Int32) (c : Nat) : Nat → Int32 → Nat → Int32 × Nat × Bool
  | 0, s, p => (s, p, false)
  | g + 1, s, p => if kdE f l p = 256 then (if fdF G c (nmE f l p) = -1 ∨ hasB s (fdF G c (nmE f l p)) = true then (s, p, true) else tsF f l G c g (s ||| 1 <<< (fdF G c (nmE f l p) &&& 31)) (nxE f l p)) else (s, p, false)
def tsP (sh : List mm_C) (V : hV) (f : Nat → Int32) (l : Nat) (r : Int32 × Nat × Bool) : mm_V → mm_H → Prop := fun v g => ∃ (W : hV) (e : Int32), v = .inl (some (.int r.1)) ∧ g = hH sh W ∧ FrP V W ∧ SRC sh W f l r.2.1 e ∧ (e = 0 ↔ r.2.2 = false)
theorem s_takeSet {S : ww_S} {sh : List mm_C} {V : hV} {f : Nat → Int32} {l p : Nat} (h : SRC sh V f l p 0) {a c : Nat} (hN : kNames sh a) (ha : 70 ≤ a) (hc : V.1 a 1 = Int32.ofNat c) (h5 : c ≤ 5) : EVQ S 4 85 [.ref 65, .ref a] (hH sh V) (tsP sh V f l (tsF f l (V.1 (a + 1)) c (c + 1) 0 p)) := by
  have key : ∀ (g i : Nat) (s : Int32) (p : Nat) (U : hV) (x : Option Value), g + i = c + 1 → SRC sh U f l p 0 → FrP V U → WP S 3 mm_m85 4 [some (.ref 65), some (.ref a), some (.int s), some (.int (Int32.ofNat i)), x] [] (hH sh U) (tsP sh V f l (tsF f l (V.1 (a + 1)) c g s p)) := by
    intro g
    induction g with
    | zero =>
      intro i s p U x hi hU hF
      have hcU : U.1 a 1 = Int32.ofNat c := (congrFun (hF a (by omega)) 1).trans hc
      refine wp_iload_n k85_4 rfl rfl ?_
      refine wp_aload_n k85_5 rfl rfl ?_
      refine wp_getI k85_6 hN.1.h hN.1.o rfl _ hcU ?_
      refine wp_if_icmp_gt_T k85_9 (i_lt (by omega) (by omega)) ?_
      refine wp_iload_n k85_71 rfl rfl ?_
      exact wp_retI k85_72 rfl ⟨U, 0, rfl, rfl, hF, hU, ⟨fun _ => rfl, fun _ => rfl⟩⟩
    | succ g ih =>
      intro i s p U x hi hU hF
      have hcU : U.1 a 1 = Int32.ofNat c := (congrFun (hF a (by omega)) 1).trans hc
      have hG : U.1 (a + 1) = V.1 (a + 1) := hF (a + 1) (by omega)
      have EN := s_isName (S := S) hU
      refine wp_iload_n k85_4 rfl rfl ?_
      refine wp_aload_n k85_5 rfl rfl ?_
      refine wp_getI k85_6 hN.1.h hN.1.o rfl _ hcU ?_
      refine wp_if_icmp_gt_F k85_9 (i_nlt (by omega) (by omega)) ?_
      refine wp_aload_n k85_12 rfl rfl ?_
      refine wp_cv (st2 := []) k85_13 EN (by decide) rfl rfl rfl rfl (by decide) hU.o (by decide) ?_
      unfold tsF
      by_cases k1 : kdE f l p = 256
      · rw [decide_eq_true k1, if_pos k1]
        obtain ⟨W, E, h2, q, hq, h3⟩ := s_known (S := S) hU hN ha hcU h5
        have ek : kwN f l p (U.1 (a + 1)) c = fdF (V.1 (a + 1)) c (nmE f l p) := by
          unfold kwN
          rw [if_pos k1, hG]
        rw [ek] at E h3
        refine wp_if_eq_F k85_16 (by decide) ?_
        refine wp_aload_n k85_19 rfl rfl ?_
        refine wp_aload_n k85_20 rfl rfl ?_
        refine wp_cv (st2 := []) k85_21 E (by decide) rfl rfl rfl rfl (by decide) hU.o (by decide) ?_
        refine wp_istore (L1 := [_, _, _, _, _]) k85_24 rfl rfl ?_
        refine wp_iload_n k85_26 rfl rfl ?_
        refine wp_iload k85_27 rfl rfl ?_
        rcases fd_lt (fun k => decide (V.1 (a + 1) k = nmE f l p)) c 0 with hm | ⟨n, _, hn, _, hm⟩
        · have hm : fdF (V.1 (a + 1)) c (nmE f l p) = -1 := hm
          rw [hm] at h3 ⊢
          rw [if_pos rfl] at h3
          rw [if_pos (Or.inl rfl)]
          have hqe : erN 0 q = q := if_pos rfl
          rw [hqe] at h3
          refine wp_cs (st2 := []) k85_29 s_isInN (by decide) rfl rfl rfl (by decide) ?_
          refine wp_if_eq_T k85_32 rfl ?_
          refine wp_aload_n k85_44 rfl rfl ?_
          have EH := s_hasError (S := S) h3
          rw [decide_eq_false hq] at EH
          refine wp_cv (st2 := []) k85_45 EH (by decide) rfl rfl rfl rfl (by decide) h3.o (by decide) ?_
          refine wp_if_eq_F k85_48 (by decide) ?_
          refine wp_iload_n k85_51 rfl rfl ?_
          exact wp_retI k85_52 rfl ⟨W, q, rfl, rfl, hF.t h2, h3, ⟨fun z => absurd z hq, fun z => (by cases z)⟩⟩
        · have hm : fdF (V.1 (a + 1)) c (nmE f l p) = Int32.ofNat n := hm
          rw [hm] at h3 ⊢
          rw [if_neg (of_ne (by omega))] at h3
          refine wp_cs (st2 := []) k85_29 (s_isIn (n := n) (by omega)) (by decide) rfl rfl rfl (by decide) ?_
          by_cases k2 : hasB s (Int32.ofNat n) = true
          · rw [k2, if_pos (Or.inr rfl)]
            obtain ⟨U2, E2, h4, h5'⟩ := s_fail (S := S) h3 (c := 2) (x := Int32.ofNat p)
            have h4 : SRC sh U2 f l p 2 := h4
            have EH := s_hasError (S := S) h4
            refine wp_if_eq_F k85_32 (by decide) ?_
            refine wp_aload_n k85_35 rfl rfl ?_
            refine wp_iconst 2 k85_36 (by decide) ?_
            refine wp_aload_n k85_37 rfl rfl ?_
            refine wp_getI k85_38 h3.S.1.h h3.o rfl _ h3.kd.2.1 ?_
            refine wp_cvn (st2 := []) k85_41 E2 (by decide) rfl rfl rfl rfl (by decide) h3.o (by decide) ?_
            refine wp_aload_n k85_44 rfl rfl ?_
            refine wp_cv (st2 := []) k85_45 EH (by decide) rfl rfl rfl rfl (by decide) h4.o (by decide) ?_
            refine wp_if_eq_F k85_48 (by decide) ?_
            refine wp_iload_n k85_51 rfl rfl ?_
            exact wp_retI k85_52 rfl ⟨U2, 2, rfl, rfl, (hF.t h2).t h5', h4, ⟨fun z => absurd z (by decide), fun z => (by cases z)⟩⟩
          · rw [Bool.not_eq_true] at k2
            rw [k2, if_neg (fun z => z.elim (of_ne (by omega)) (fun z => by cases z))]
            have EH := s_hasError (S := S) h3
            obtain ⟨U2, E2, h4, h5'⟩ := s_advance (S := S) h3
            refine wp_if_eq_T k85_32 rfl ?_
            refine wp_aload_n k85_44 rfl rfl ?_
            refine wp_cv (st2 := []) k85_45 EH (by decide) rfl rfl rfl rfl (by decide) h3.o (by decide) ?_
            refine wp_if_eq_T k85_48 rfl ?_
            refine wp_iload_n k85_53 rfl rfl ?_
            refine wp_iload k85_54 rfl rfl ?_
            refine wp_cs (st2 := [_]) k85_56 (s_setOf (n := n) (by omega)) (by decide) rfl rfl rfl (by decide) ?_
            refine wp_ior k85_59 ?_
            refine wp_istore_n (L1 := [_, _, _, _, _]) k85_60 rfl rfl ?_
            refine wp_aload_n k85_61 rfl rfl ?_
            refine wp_cvn (st2 := []) k85_62 E2 (by decide) rfl rfl rfl rfl (by decide) h3.o (by decide) ?_
            refine wp_iinc 1 (L1 := [_, _, _, _, _]) k85_65 rfl (by decide) rfl ?_
            refine wp_goto k85_68 ?_
            rw [i_succ]
            exact ih (i + 1) _ _ U2 _ (by omega) h4 ((hF.t h2).t h5')
      · rw [decide_eq_false k1, if_neg k1]
        refine wp_if_eq_T k85_16 rfl ?_
        refine wp_iload_n k85_71 rfl rfl ?_
        exact wp_retI k85_72 rfl ⟨U, 0, rfl, rfl, hF, hU, ⟨fun _ => rfl, fun _ => rfl⟩⟩
  refine ev_of P85 rfl ?_
  refine wp_iconst 0 k85_0 (by decide) ?_
  refine wp_istore_n (L1 := [_, _, _, _, _]) k85_1 rfl rfl ?_
  refine wp_iconst 0 k85_2 (by decide) ?_
  refine wp_istore_n (L1 := [_, _, _, _, _]) k85_3 rfl rfl ?_
  exact key (c + 1) 0 0 p V _ rfl h (fun b hb => rfl)
end N_i
