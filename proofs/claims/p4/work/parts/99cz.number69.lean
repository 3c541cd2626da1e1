section M69
/-! ===== the output: a number more ===== -/
def sz (i : Nat) : Nat := if i < 10 then 1 else 2
theorem nn1 : ∀ i : Fin 10, (-10 : Int32) < -Int32.ofNat i.val := by decide
theorem nn2 : ∀ i : Fin 32, 10 ≤ i.val → ¬ (-10 : Int32) < -Int32.ofNat i.val := by decide
theorem nn3 : ∀ i : Fin 32, (10 : Int32) * -10 < -Int32.ofNat i.val := by decide
theorem nn4 : ∀ i : Fin 32, (-100 : Int32) < -Int32.ofNat i.val := by decide
theorem nn5 : ∀ i : Fin 10, ¬ -Int32.ofNat i.val < (-9 : Int32) := by decide
theorem nn6 : ∀ i : Fin 32, 10 ≤ i.val → -Int32.ofNat i.val < (-9 : Int32) := by decide
theorem nn7 : ∀ i : Fin 32, - -Int32.ofNat i.val = Int32.ofNat i.val := by decide
theorem e_ssize {S : ww_S} {h : mm_H} {i : Nat} (hi : i < 32) : EV S 1 359 [.int (Int32.ofNat i)] h (.inl (some (.int (Int32.ofNat (sz i))))) h := by
  refine ev_qe P359 rfl ?_
  refine wp_iconst 1 k359_0 (by decide) ?_
  refine wp_istore_n (L1 := [_, _, _, _]) k359_1 rfl rfl ?_
  refine wp_iload_n k359_2 rfl rfl ?_
  refine wp_if_lt_F k359_3 (i_nlt (k := i) (n := 0) (by omega) (by omega)) ?_
  refine wp_iconst 0 k359_6 (by decide) ?_
  refine wp_istore_n (L1 := [_, _, _, _]) k359_7 rfl rfl ?_
  refine wp_iload_n k359_8 rfl rfl ?_
  refine wp_ineg k359_9 ?_
  refine wp_istore_n (L1 := [_, _, _, _]) k359_10 rfl rfl ?_
  refine wp_bipush (-10) k359_11 (by decide) ?_
  refine wp_istore_n (L1 := [_, _, _, _]) k359_13 rfl rfl ?_
  refine wp_iconst 1 k359_14 (by decide) ?_
  refine wp_istore_n (L1 := [_, _, _, _]) k359_15 rfl rfl ?_
  refine wp_iload_n k359_16 rfl rfl ?_
  refine wp_bipush 10 k359_17 (by decide) ?_
  refine wp_if_icmp_ge_F k359_19 (by decide) ?_
  refine wp_iload_n k359_22 rfl rfl ?_
  refine wp_iload_n k359_23 rfl rfl ?_
  by_cases h9 : i < 10
  · refine wp_if_icmp_le_F k359_24 (nn1 ⟨i, h9⟩) ?_
    refine wp_iload_n k359_27 rfl rfl ?_
    refine wp_iload_n k359_28 rfl rfl ?_
    refine wp_iadd k359_29 ?_
    refine wp_cast (show (1 : Int32) + 0 = Int32.ofNat (sz i) from by rw [show sz i = 1 from if_pos h9]; decide) ?_
    exact wp_reti k359_30 rfl rfl rfl
  · refine wp_if_icmp_le_T k359_24 (nn2 ⟨i, hi⟩ (Nat.not_lt.mp h9)) ?_
    refine wp_bipush 10 k359_31 (by decide) ?_
    refine wp_iload_n k359_33 rfl rfl ?_
    refine wp_imul k359_34 ?_
    refine wp_istore_n (L1 := [_, _, _, _]) k359_35 rfl rfl ?_
    refine wp_iinc 1 (L1 := [_, _, _, _]) k359_36 rfl (by decide) rfl ?_
    refine wp_goto k359_39 ?_
    refine wp_iload_n k359_16 rfl rfl ?_
    refine wp_bipush 10 k359_17 (by decide) ?_
    refine wp_if_icmp_ge_F k359_19 (by decide) ?_
    refine wp_iload_n k359_22 rfl rfl ?_
    refine wp_iload_n k359_23 rfl rfl ?_
    refine wp_if_icmp_le_F k359_24 (nn3 ⟨i, hi⟩) ?_
    refine wp_iload_n k359_27 rfl rfl ?_
    refine wp_iload_n k359_28 rfl rfl ?_
    refine wp_iadd k359_29 ?_
    refine wp_cast (show (1 : Int32) + 1 + 0 = Int32.ofNat (sz i) from by rw [show sz i = 2 from if_neg h9]; decide) ?_
    exact wp_reti k359_30 rfl rfl rfl
theorem pm {a b : Nat} (h : a = b + 1) : Int32.ofNat a + -1 = Int32.ofNat b := by
  subst h
  rw [← i_succ, Int32.add_assoc, show (1 : Int32) + -1 = 0 from by decide, Int32.add_zero]
theorem e_getC {S : ww_S} {sh : List mm_C} {V : hV} {q cap i c : Nat} (hi : i < 32) (hq64 : 64 ≤ q) (hq : sh[q - 64]? = some (.inl (2, cap, 0))) (hb : ∀ j, isB (V.1 q j)) (hc : c + sz i ≤ cap) (hm : cap ≤ 100000) : ∃ y W, EV S 1 358 [.int (Int32.ofNat i), .int (Int32.ofNat (c + sz i)), .ref q] (hH sh V) (.inl (some (.int y))) (hH sh W) ∧ (∀ b, b ≠ q → W.1 b = V.1 b ∧ W.2 b = V.2 b) ∧ ∀ j, isB (W.1 q j) := by
  have ub : ∀ (U : hV) (k : Nat) (x : Int32), (∀ j, isB (U.1 q j)) → ∀ j, isB ((up U q k x.toInt8.toInt32).1 q j) := fun U k x h j => by
    by_cases e : j = k
    · subst e
      rw [up_eq]
      exact isB_n x
    · rw [up_ne _ _ (Or.inr e)]
      exact h j
  have fin : ∀ {z : Int32}, EVQ S 1 358 [.int (Int32.ofNat i), .int z, .ref q] (hH sh V) (fun v g => ∃ y W, v = .inl (some (.int y)) ∧ g = hH sh W ∧ (∀ b, b ≠ q → W.1 b = V.1 b ∧ W.2 b = V.2 b) ∧ ∀ j, isB (W.1 q j)) → ∃ y W, EV S 1 358 [.int (Int32.ofNat i), .int z, .ref q] (hH sh V) (.inl (some (.int y))) (hH sh W) ∧ (∀ b, b ≠ q → W.1 b = V.1 b ∧ W.2 b = V.2 b) ∧ ∀ j, isB (W.1 q j) := fun ⟨v, g, e, y, W, h1, h2, h3⟩ => by
    subst h1 h2
    exact ⟨y, W, e, h3⟩
  by_cases h9 : i < 10
  · have e1 : sz i = 1 := if_pos h9
    rw [e1] at hc ⊢
    refine fin (ev_of P358 rfl ?_)
    refine wp_iload_n k358_0 rfl rfl ?_
    refine wp_istore (L1 := [_, _, _, _, _, _, _]) k358_1 rfl rfl ?_
    refine wp_iload_n k358_3 rfl rfl ?_
    refine wp_if_ge_T k358_4 (i_nlt (k := i) (n := 0) (by omega) (by omega)) ?_
    refine wp_iconst 0 k358_11 (by decide) ?_
    refine wp_istore (L1 := [_, _, _, _, _, _, _]) k358_12 rfl rfl ?_
    refine wp_iload k358_14 rfl rfl ?_
    refine wp_if_ne_F k358_16 rfl ?_
    refine wp_iload_n k358_19 rfl rfl ?_
    refine wp_ineg k358_20 ?_
    refine wp_istore_n (L1 := [_, _, _, _, _, _, _]) k358_21 rfl rfl ?_
    refine wp_iload_n k358_22 rfl rfl ?_
    refine wp_bipush (-100) k358_23 (by decide) ?_
    refine wp_if_icmp_gt_T k358_25 (nn4 ⟨i, hi⟩) ?_
    refine wp_aload_n k358_72 rfl rfl ?_
    refine wp_iinc (-1) (L1 := [_, _, _, _, _, _, _]) k358_73 rfl (by decide) rfl ?_
    refine wp_iload k358_76 rfl rfl ?_
    refine wp_cast (show Int32.ofNat (c + 1) + -1 = Int32.ofNat c from pm (by omega)) ?_
    refine wp_getstatic k358_78 rfl ?_
    refine wp_iload_n k358_81 rfl rfl ?_
    refine wp_ineg k358_82 ?_
    refine wp_cast (nn7 ⟨i, hi⟩) ?_
    refine wp_baloadx k358_83 rfl rfl (i_inO (by omega) (by decide)) i (i_un (by omega)) ?_
    refine wp_bastore k358_84 hq64 hq (i_inO (by omega) (by omega)) (c) (i_un (by omega)) ?_
    refine wp_iload_n k358_85 rfl rfl ?_
    refine wp_bipush (-9) k358_86 (by decide) ?_
    refine wp_if_icmp_ge_T k358_88 (nn5 ⟨i, h9⟩) ?_
    refine wp_iload k358_104 rfl rfl ?_
    refine wp_if_eq_T k358_106 rfl ?_
    refine wp_iload k358_118 rfl rfl ?_
    exact wp_retI k358_120 rfl ⟨_, _, rfl, rfl, fun b h1 => ⟨funext fun j => up_ne _ _ (Or.inl h1), rfl⟩, ub _ _ _ hb⟩
  · have e1 : sz i = 2 := if_neg h9
    rw [e1] at hc ⊢
    refine fin (ev_of P358 rfl ?_)
    refine wp_iload_n k358_0 rfl rfl ?_
    refine wp_istore (L1 := [_, _, _, _, _, _, _]) k358_1 rfl rfl ?_
    refine wp_iload_n k358_3 rfl rfl ?_
    refine wp_if_ge_T k358_4 (i_nlt (k := i) (n := 0) (by omega) (by omega)) ?_
    refine wp_iconst 0 k358_11 (by decide) ?_
    refine wp_istore (L1 := [_, _, _, _, _, _, _]) k358_12 rfl rfl ?_
    refine wp_iload k358_14 rfl rfl ?_
    refine wp_if_ne_F k358_16 rfl ?_
    refine wp_iload_n k358_19 rfl rfl ?_
    refine wp_ineg k358_20 ?_
    refine wp_istore_n (L1 := [_, _, _, _, _, _, _]) k358_21 rfl rfl ?_
    refine wp_iload_n k358_22 rfl rfl ?_
    refine wp_bipush (-100) k358_23 (by decide) ?_
    refine wp_if_icmp_gt_T k358_25 (nn4 ⟨i, hi⟩) ?_
    refine wp_aload_n k358_72 rfl rfl ?_
    refine wp_iinc (-1) (L1 := [_, _, _, _, _, _, _]) k358_73 rfl (by decide) rfl ?_
    refine wp_iload k358_76 rfl rfl ?_
    refine wp_cast (show Int32.ofNat (c + 2) + -1 = Int32.ofNat (c + 1) from pm (by omega)) ?_
    refine wp_getstatic k358_78 rfl ?_
    refine wp_iload_n k358_81 rfl rfl ?_
    refine wp_ineg k358_82 ?_
    refine wp_cast (nn7 ⟨i, hi⟩) ?_
    refine wp_baloadx k358_83 rfl rfl (i_inO (by omega) (by decide)) i (i_un (by omega)) ?_
    refine wp_bastore k358_84 hq64 hq (i_inO (by omega) (by omega)) ((c + 1)) (i_un (by omega)) ?_
    refine wp_iload_n k358_85 rfl rfl ?_
    refine wp_bipush (-9) k358_86 (by decide) ?_
    refine wp_if_icmp_ge_F k358_88 (nn6 ⟨i, hi⟩ (Nat.not_lt.mp h9)) ?_
    refine wp_aload_n k358_91 rfl rfl ?_
    refine wp_iinc (-1) (L1 := [_, _, _, _, _, _, _]) k358_92 rfl (by decide) rfl ?_
    refine wp_iload k358_95 rfl rfl ?_
    refine wp_cast (show Int32.ofNat (c + 2) + -1 + -1 = Int32.ofNat c from by rw [pm (b := c + 1) (by omega), pm (b := c) (by omega)]) ?_
    refine wp_getstatic k358_97 rfl ?_
    refine wp_iload_n k358_100 rfl rfl ?_
    refine wp_ineg k358_101 ?_
    refine wp_cast (nn7 ⟨i, hi⟩) ?_
    refine wp_baloadx k358_102 rfl rfl (i_inO (by omega) (by decide)) i (i_un (by omega)) ?_
    refine wp_bastore k358_103 hq64 hq (i_inO (by omega) (by omega)) c (i_un (by omega)) ?_
    refine wp_iload k358_104 rfl rfl ?_
    refine wp_if_eq_T k358_106 rfl ?_
    refine wp_iload k358_118 rfl rfl ?_
    exact wp_retI k358_120 rfl ⟨_, _, rfl, rfl, fun b h1 => ⟨(funext fun j => up_ne _ _ (Or.inl h1)).trans (funext fun j => up_ne _ _ (Or.inl h1)), rfl⟩, ub _ _ _ (ub _ _ _ hb)⟩
theorem e_apn {S : ww_S} {sh : List mm_C} {V : hV} {q cap c i : Nat} (hB : SBI sh V q cap c) (hl : 260 ≤ sh.length) (hc : c ≤ 48000) (hi : i < 32) : ∃ sh' W q' cap', EV S 4 352 [.ref 183, .int (Int32.ofNat i)] (hH sh V) (.inl (some (.ref 183))) (hH sh' W) ∧ SBI sh' W q' cap' (c + sz i) ∧ FX 0 (V.1 65 4) sh V sh' W ∧ sh.length ≤ sh'.length := by
  have hle := hB.le
  have hcap := hB.l
  have h2 : sz i ≤ 2 := by
    unfold sz
    split <;> omega
  obtain ⟨sh1, W1, q1, cap1, E1, hs1, hn1, hF1, hl1, hc1⟩ := e_ensure (S := S) (n := c + sz i) hB hl (by omega) (by omega)
  obtain ⟨y, W2, E2, f2, b2⟩ := e_getC (S := S) (c := c) hi hs1.q64 hs1.s hs1.b hn1 hs1.m
  have hne := hs1.2.2.1
  have hs3 : SBI sh1 (up W2 183 3 (Int32.ofNat (c + sz i))) q1 cap1 (c + sz i) := by
    refine ⟨hs1.1, hs1.2.1, hne, hs1.o, hs1.s, ?_, up_eq _ _ _ _, hn1, ⟨hs1.l, hs1.m⟩, fun j => ?_⟩
    · exact (up_ne _ _ (Or.inr (by decide))).trans ((congrFun (f2 183 (fun z => hne z.symm)).1 1).trans hs1.cd)
    · rw [up_ne _ _ (Or.inl hne)]
      exact b2 j
  have hF3 := fx_v hs1 (W := up W2 183 3 (Int32.ofNat (c + sz i))) (fun b h1 h2 => ⟨(funext fun j => up_ne _ _ (Or.inl h1)).trans (f2 b h2).1, (f2 b h2).2⟩) hs3
  refine ⟨sh1, _, q1, cap1, ev_qe P352 rfl ?_, hs3, ?_, hl1⟩
  · refine wp_aload_n k352_0 rfl rfl ?_
    refine wp_getI k352_1 (by decide) hB.o rfl _ hB.n ?_
    refine wp_istore_n (L1 := [_, _, _, _]) k352_4 rfl rfl ?_
    refine wp_iload_n k352_5 rfl rfl ?_
    refine wp_iload_n k352_6 rfl rfl ?_
    refine wp_cs (st2 := [_]) k352_7 (e_ssize hi) (by decide) rfl rfl rfl (by decide) ?_
    refine wp_iadd k352_10 ?_
    refine wp_cast (i_add c (sz i)) ?_
    refine wp_istore_n (L1 := [_, _, _, _]) k352_11 rfl rfl ?_
    refine wp_aload_n k352_12 rfl rfl ?_
    refine wp_iload_n k352_13 rfl rfl ?_
    refine wp_cvn (st2 := []) k352_14 E1 (by decide) rfl rfl rfl rfl (by decide) hB.o (by decide) ?_
    refine wp_aload_n k352_17 rfl rfl ?_
    refine wp_cv (st2 := []) k352_18 (e_sblat hs1) (by decide) rfl rfl rfl rfl (by decide) hs1.o (by decide) ?_
    refine wp_if_eq_F k352_21 (by decide) ?_
    refine wp_iload_n k352_24 rfl rfl ?_
    refine wp_iload_n k352_25 rfl rfl ?_
    refine wp_aload_n k352_26 rfl rfl ?_
    refine wp_getR k352_27 (by decide) hs1.o rfl ?_
    refine wp_cs (st2 := []) k352_30 E2 (by decide) rfl rfl rfl (by decide) ?_
    refine wp_pop k352_33 rfl ?_
    refine wp_goto k352_34 ?_
    refine wp_aload_n k352_48 rfl rfl ?_
    refine wp_iload_n k352_49 rfl rfl ?_
    refine wp_putI k352_50 (by decide) hs1.o rfl rfl rfl ?_
    refine wp_aload_n k352_53 rfl rfl ?_
    exact wp_reta k352_54 rfl rfl
  · have := hF1.t hF3
    rw [show W1.1 65 4 = V.1 65 4 from hF1.1] at this
    exact this
theorem e_apN {S : ww_S} {sh : List mm_C} {V : hV} {q cap c i : Nat} (hB : SBI sh V q cap c) (hl : 260 ≤ sh.length) (hc : c ≤ 48000) (hi : i < 32) : ∃ sh' W q' cap', EV S 5 374 [.ref 183, .int (Int32.ofNat i)] (hH sh V) (.inl (some (.ref 183))) (hH sh' W) ∧ SBI sh' W q' cap' (c + sz i) ∧ FX 0 (V.1 65 4) sh V sh' W ∧ sh.length ≤ sh'.length := by
  obtain ⟨sh1, W1, q1, cap1, E1, hr⟩ := e_apn (S := S) hB hl hc hi
  refine ⟨sh1, W1, q1, cap1, ev_qe P374 rfl ?_, hr⟩
  refine wp_aload_n k374_0 rfl rfl ?_
  refine wp_iload_n k374_1 rfl rfl ?_
  refine wp_c4 (st2 := []) k374_2 E1 rfl rfl rfl rfl (by decide) hB.o (by decide) ?_
  refine wp_pop k374_5 rfl ?_
  refine wp_aload_n k374_6 rfl rfl ?_
  exact wp_reta k374_7 rfl rfl
end M69
