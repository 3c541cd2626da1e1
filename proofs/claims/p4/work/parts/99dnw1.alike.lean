section N_w
/-! ===== the class, exactly: what is alike, knowledge begun ===== -/
theorem wof_i {i : Nat} (hi : i < 5) : Int32.ofNat (mm_ag 32 1461479336924662698594713458128201467374407953066 i) = wof (Int32.ofNat i) := by
  obtain rfl | rfl | rfl | rfl | rfl : i = 0 ∨ i = 1 ∨ i = 2 ∨ i = 3 ∨ i = 4 := by omega
  · exact wof_0
  · exact wof_1
  · exact wof_2
  · exact wof_3
  · exact wof_4
def agS (w s : Int32) (i : Nat) (acc : Int32) : Int32 := if hasB s (Int32.ofNat i) = true then acc &&& (if hasB w (Int32.ofNat i) = true then wof (Int32.ofNat i) else wof (Int32.ofNat i) ^^^ -1) else acc
/-- the worlds that agree with the world w on the facts of s -/
def agF (w s : Int32) : Nat → Nat → Int32 → Int32
  | 0, _, acc => acc
  | g + 1, i, acc => agF w s g (i + 1) (agS w s i acc)
theorem s_agreeing {S : ww_S} {h : mm_H} {w s : Int32} : EV S 1 163 [.int w, .int s] h (.inl (some (.int (agF w s 5 0 (-1))))) h := by
  have key : ∀ (g i : Nat) (acc : Int32), g + i = 5 → WP S 0 mm_m163 4 [some (.int w), some (.int s), some (.int acc), some (.int (Int32.ofNat i))] [] h (qe (.inl (some (.int (agF w s g i acc)))) h) := by
    intro g
    induction g with
    | zero =>
      intro i acc hi
      refine wp_iload_n k163_4 rfl rfl ?_
      refine wp_getstatic k163_5 rfl ?_
      refine wp_alenx k163_8 rfl rfl rfl rfl ?_
      refine wp_if_icmp_ge_T k163_9 (i_nlt (k := i) (n := 5) (by omega) (by omega)) ?_
      refine wp_iload_n k163_54 rfl rfl ?_
      exact wp_reti k163_55 rfl rfl rfl
    | succ g ih =>
      intro i acc hi
      have i5 : i < 5 := by omega
      have hin : mm_in (Int32.ofNat i) 5 = true := i_inO (by omega) (by decide)
      refine wp_iload_n k163_4 rfl rfl ?_
      refine wp_getstatic k163_5 rfl ?_
      refine wp_alenx k163_8 rfl rfl rfl rfl ?_
      refine wp_if_icmp_ge_F k163_9 (i_lt (k := i) (n := 5) (by omega) (by decide)) ?_
      refine wp_iload_n k163_12 rfl rfl ?_
      refine wp_iload_n k163_13 rfl rfl ?_
      refine wp_iushr k163_14 ?_
      refine wp_iconst 1 k163_15 (by decide) ?_
      refine wp_iand k163_16 ?_
      refine wp_iconst 1 k163_17 (by decide) ?_
      have nxt : ∀ acc2 : Int32, agS w s i acc = acc2 → WP S 0 mm_m163 48 [some (.int w), some (.int s), some (.int acc2), some (.int (Int32.ofNat i))] [] h (qe (.inl (some (.int (agF w s (g + 1) i acc)))) h) := by
        intro acc2 e
        refine wp_iinc 1 (L1 := [_, _, _, _]) k163_48 rfl (by decide) rfl ?_
        refine wp_goto k163_51 ?_
        rw [i_succ, show agF w s (g + 1) i acc = agF w s g (i + 1) acc2 from by rw [← e]; rfl]
        exact ih (i + 1) acc2 (by omega)
      by_cases c : (s.toUInt32 >>> ((Int32.ofNat i).toUInt32 &&& Int32.toUInt32 31)).toInt32 &&& 1 = 1
      · refine wp_if_icmp_ne_F k163_18 c ?_
        refine wp_iload_n k163_21 rfl rfl ?_
        refine wp_iload_n k163_22 rfl rfl ?_
        refine wp_iload_n k163_23 rfl rfl ?_
        refine wp_iushr k163_24 ?_
        refine wp_iconst 1 k163_25 (by decide) ?_
        refine wp_iand k163_26 ?_
        refine wp_iconst 1 k163_27 (by decide) ?_
        have hs : agS w s i acc = acc &&& (if hasB w (Int32.ofNat i) = true then wof (Int32.ofNat i) else wof (Int32.ofNat i) ^^^ -1) := if_pos (decide_eq_true c)
        by_cases c2 : (w.toUInt32 >>> ((Int32.ofNat i).toUInt32 &&& Int32.toUInt32 31)).toInt32 &&& 1 = 1
        · rw [if_pos (show hasB w (Int32.ofNat i) = true from decide_eq_true c2)] at hs
          refine wp_if_icmp_ne_F k163_28 c2 ?_
          refine wp_getstatic k163_31 rfl ?_
          refine wp_iload_n k163_34 rfl rfl ?_
          refine wp_ialoadx k163_35 rfl rfl hin i (i_un (by omega)) ?_
          rw [wof_i i5]
          refine wp_goto k163_36 ?_
          refine wp_iand k163_46 ?_
          refine wp_istore_n (L1 := [_, _, _, _]) k163_47 rfl rfl ?_
          exact nxt _ hs
        · rw [if_neg (show ¬ hasB w (Int32.ofNat i) = true from fun z => c2 (of_decide_eq_true z))] at hs
          refine wp_if_icmp_ne_T k163_28 c2 ?_
          refine wp_getstatic k163_39 rfl ?_
          refine wp_iload_n k163_42 rfl rfl ?_
          refine wp_ialoadx k163_43 rfl rfl hin i (i_un (by omega)) ?_
          rw [wof_i i5]
          refine wp_iconst (-1) k163_44 (by decide) ?_
          refine wp_ixor k163_45 ?_
          refine wp_iand k163_46 ?_
          refine wp_istore_n (L1 := [_, _, _, _]) k163_47 rfl rfl ?_
          exact nxt _ hs
      · refine wp_if_icmp_ne_T k163_18 c ?_
        exact nxt _ (if_neg (show ¬ hasB s (Int32.ofNat i) = true from fun z => c (of_decide_eq_true z)))
  refine ev_qe P163 rfl ?_
  refine wp_iconst (-1) k163_0 (by decide) ?_
  refine wp_istore_n (L1 := [_, _, _, _]) k163_1 rfl rfl ?_
  refine wp_iconst 0 k163_2 (by decide) ?_
  refine wp_istore_n (L1 := [_, _, _, _]) k163_3 rfl rfl ?_
  exact key 5 0 (-1) rfl
/-- alike for each person -/
def ALK (g : Nat → Int32) (cp : Nat) (sn : Nat → Int32) : Prop := ∀ i j, i < cp → j < 32 → g (i * 32 + j) = agF (Int32.ofNat j) (sn i) 5 0 (-1)
def kbP (sh : List mm_C) (V : hV) (k cp : Nat) (sn : Nat → Int32) (fi : Int32) : mm_V → mm_H → Prop := fun v g => ∃ W : hV, v = .inl none ∧ g = hH sh W ∧ W.1 k 1 = fi ∧ W.1 k 2 = Int32.ofNat cp ∧ ALK (W.1 (k + 1)) cp sn ∧ ∀ b, b ≠ k → b ≠ k + 1 → W.1 b = V.1 b
theorem s_kbegin {S : ww_S} {sh : List mm_C} {V : hV} {k q : Nat} {Gf : Nat → Int32} {cf : Nat} {Gp : Nat → Int32} {cp : Nat} {sn : Nat → Int32} {lw : Nat} {fi re : Int32} (hk : kKnow sh k) (hq : kScene sh q) (hkq : k + 1 < q) (hX : SCX V q Gf cf Gp cp sn lw fi re) : EVQ S 2 26 [.ref k, .ref q] (hH sh V) (kbP sh V k cp sn fi) := by
  obtain ⟨x1, x2, x3, x4, x5, x6, x7, x8, x9, x10, x11⟩ := id hX
  have inn : ∀ (i : Nat), i < cp → ∀ (g j : Nat) (U : hV), g + j = 32 → U.1 k 1 = fi → U.1 k 2 = Int32.ofNat cp → (∀ i' j', j' < 32 → (i' < i ∨ (i' = i ∧ j' < j)) → U.1 (k + 1) (i' * 32 + j') = agF (Int32.ofNat j') (sn i') 5 0 (-1)) → (∀ b, b ≠ k → b ≠ k + 1 → U.1 b = V.1 b) → ∀ Q, (∀ W : hV, W.1 k 1 = fi → W.1 k 2 = Int32.ofNat cp → (∀ i' j', j' < 32 → i' < i + 1 → W.1 (k + 1) (i' * 32 + j') = agF (Int32.ofNat j') (sn i') 5 0 (-1)) → (∀ b, b ≠ k → b ≠ k + 1 → W.1 b = V.1 b) → WP S 1 mm_m26 21 [some (.ref k), some (.ref q), some (.int (Int32.ofNat (i + 1))), some (.int (Int32.ofNat 32))] [] (hH sh W) Q) → WP S 1 mm_m26 31 [some (.ref k), some (.ref q), some (.int (Int32.ofNat i)), some (.int (Int32.ofNat j))] [] (hH sh U) Q := by
    intro i hi g
    induction g with
    | zero =>
      intro j U hj h1 h2 hA hU Q hQ
      obtain rfl : j = 32 := by omega
      refine wp_iload_n k26_31 rfl rfl ?_
      refine wp_bipush 32 k26_32 (by decide) ?_
      refine wp_if_icmp_ge_T k26_34 (by decide) ?_
      refine wp_iinc 1 (L1 := [_, _, _, _]) k26_68 rfl (by decide) rfl ?_
      refine wp_goto k26_71 ?_
      rw [i_succ]
      exact hQ U h1 h2 (fun i' j' h3 h4 => hA i' j' h3 (by omega)) hU
    | succ g ih =>
      intro j U hj h1 h2 hA hU Q hQ
      have E1 := s_at (S := S) (V := U) hq.2.2.2.r (by decide) (i := Int32.ofNat i)
      rw [at_in (by omega) (by decide), hU (q + 5) (by omega) (by omega), congrFun x7 i] at E1
      have E2 := fun y => s_put (S := S) (V := U) hk.2.r (by decide) (i := Int32.ofNat (i * 32 + j)) (x := y)
      have E2 := E2 (agF (Int32.ofNat j) (sn i) 5 0 (-1))
      rw [putV_up (by omega) (by decide)] at E2
      refine wp_iload_n k26_31 rfl rfl ?_
      refine wp_bipush 32 k26_32 (by decide) ?_
      refine wp_if_icmp_ge_F k26_34 (i_lt (k := j) (n := 32) (by omega) (by decide)) ?_
      refine wp_aload_n k26_37 rfl rfl ?_
      refine wq_getR k26_38 hk.1 rfl ?_
      refine wp_iload_n k26_41 rfl rfl ?_
      refine wp_bipush 32 k26_42 (by decide) ?_
      refine wp_imul k26_44 ?_
      refine wp_iload_n k26_45 rfl rfl ?_
      refine wp_iadd k26_46 ?_
      refine wp_cast (show Int32.ofNat i * 32 + Int32.ofNat j = Int32.ofNat (i * 32 + j) from by rw [show (32 : Int32) = Int32.ofNat 32 from rfl, ← Int32.ofNat_mul, ← Int32.ofNat_add]) ?_
      refine wp_iload_n k26_47 rfl rfl ?_
      refine wp_aload_n k26_48 rfl rfl ?_
      refine wq_getR k26_49 hq.1 rfl ?_
      refine wp_iload_n k26_52 rfl rfl ?_
      refine wp_cs (st2 := [_, _, _]) k26_53 E1 (by decide) rfl rfl rfl (by decide) ?_
      refine wp_cs (st2 := [_, _]) k26_56 s_agreeing (by decide) rfl rfl rfl (by decide) ?_
      refine wp_csn (st2 := []) k26_59 E2 (by decide) rfl rfl rfl (by decide) ?_
      refine wp_iinc 1 (L1 := [_, _, _, _]) k26_62 rfl (by decide) rfl ?_
      refine wp_goto k26_65 ?_
      rw [i_succ]
      have gk : ∀ b, b ≠ k + 1 → (up U (k + 1) (i * 32 + j) (agF (Int32.ofNat j) (sn i) 5 0 (-1))).1 b = U.1 b := fun b hb => funext fun j => up_ne _ _ (Or.inl hb)
      refine ih (j + 1) _ (by omega) ((congrFun (gk k (by omega)) 1).trans h1) ((congrFun (gk k (by omega)) 2).trans h2) (fun i' j' h3 h4 => ?_) (fun b b1 b2 => (gk b b2).trans (hU b b1 b2)) Q hQ
      by_cases c : i' = i ∧ j' = j
      · rw [c.1, c.2]
        exact up_eq _ _ _ _
      · refine (up_ne _ _ (Or.inr ?_)).trans (hA i' j' h3 (by omega))
        omega
  have outer : ∀ (g i : Nat) (U : hV) (y3 : Option Value), g + i = cp → U.1 k 1 = fi → U.1 k 2 = Int32.ofNat cp → (∀ i' j', j' < 32 → i' < i → U.1 (k + 1) (i' * 32 + j') = agF (Int32.ofNat j') (sn i') 5 0 (-1)) → (∀ b, b ≠ k → b ≠ k + 1 → U.1 b = V.1 b) → WP S 1 mm_m26 21 [some (.ref k), some (.ref q), some (.int (Int32.ofNat i)), y3] [] (hH sh U) (kbP sh V k cp sn fi) := by
    intro g
    induction g with
    | zero =>
      intro i U y3 hi h1 h2 hA hU
      refine wp_iload_n k26_21 rfl rfl ?_
      refine wp_aload_n k26_22 rfl rfl ?_
      refine wp_getI k26_23 hk.1.h hk.1.o rfl _ h2 ?_
      refine wp_if_icmp_ge_T k26_26 (i_nlt (k := i) (n := cp) (by omega) (by omega)) ?_
      exact wp_retN k26_74 rfl ⟨U, rfl, rfl, h1, h2, fun i' j' h3 h4 => hA i' j' h4 (by omega), hU⟩
    | succ g ih =>
      intro i U y3 hi h1 h2 hA hU
      refine wp_iload_n k26_21 rfl rfl ?_
      refine wp_aload_n k26_22 rfl rfl ?_
      refine wp_getI k26_23 hk.1.h hk.1.o rfl _ h2 ?_
      refine wp_if_icmp_ge_F k26_26 (i_lt (k := i) (n := cp) (by omega) (by omega)) ?_
      refine wp_iconst 0 k26_29 (by decide) ?_
      refine wp_istore_n (L1 := [_, _, _, _]) k26_30 rfl rfl ?_
      exact inn i (by omega) 32 0 U rfl h1 h2 (fun i' j' h3 h4 => hA i' j' h3 (by omega)) hU _ fun W g1 g2 gA gU => ih (i + 1) W _ (by omega) g1 g2 gA gU
  refine ev_of P26 rfl ?_
  refine wp_aload_n k26_0 rfl rfl ?_
  refine wp_aload_n k26_1 rfl rfl ?_
  refine wp_getI k26_2 hq.1.h hq.1.o rfl _ x10 ?_
  refine wp_putI k26_5 hk.1.h hk.1.o rfl rfl rfl ?_
  refine wp_aload_n k26_8 rfl rfl ?_
  refine wp_aload_n k26_9 rfl rfl ?_
  refine wq_getR k26_10 hq.1 rfl ?_
  refine wp_getI k26_13 hq.2.2.1.1.h hq.2.2.1.1.o rfl (Int32.ofNat cp) ((up_ne _ _ (Or.inl (by omega))).trans x5) ?_
  refine wp_putI k26_16 hk.1.h hk.1.o rfl rfl rfl ?_
  refine wp_iconst 0 k26_19 (by decide) ?_
  refine wp_istore_n (L1 := [_, _, _, _]) k26_20 rfl rfl ?_
  exact outer cp 0 _ _ rfl ((up_ne _ _ (Or.inr (by decide))).trans (up_eq _ _ _ _)) (up_eq _ _ _ _) (fun i' j' h3 h4 => absurd h4 (Nat.not_lt_zero _)) (fun b b1 b2 => (funext fun j => up_ne _ _ (Or.inl b1)).trans (funext fun j => up_ne _ _ (Or.inl b1)))
end N_w
