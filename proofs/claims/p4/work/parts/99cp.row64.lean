section M64
/-! ===== the output: its row ===== -/
theorem SBI.o {sh : List mm_C} {V : hV} {q cap c : Nat} (h : SBI sh V q cap c) : sh[183 - 64]? = some (.inr (.inr (1, [.ref q, .int 0, .int 0, .int 0]))) := h.2.2.2.1
theorem SBI.s {sh : List mm_C} {V : hV} {q cap c : Nat} (h : SBI sh V q cap c) : sh[q - 64]? = some (.inl (2, cap, 0)) := h.2.2.2.2.1
theorem SBI.q64 {sh : List mm_C} {V : hV} {q cap c : Nat} (h : SBI sh V q cap c) : 64 ≤ q := Nat.le_trans (by decide) h.1
theorem SBI.lt {sh : List mm_C} {V : hV} {q cap c : Nat} (h : SBI sh V q cap c) : q < 64 + sh.length := by
  have h1 := (List.getElem?_eq_some_iff.mp h.s).1
  have h2 := h.q64
  omega
theorem SBI.cd {sh : List mm_C} {V : hV} {q cap c : Nat} (h : SBI sh V q cap c) : V.1 183 1 = 0 := h.2.2.2.2.2.1
theorem SBI.n {sh : List mm_C} {V : hV} {q cap c : Nat} (h : SBI sh V q cap c) : V.1 183 3 = Int32.ofNat c := h.2.2.2.2.2.2.1
theorem SBI.le {sh : List mm_C} {V : hV} {q cap c : Nat} (h : SBI sh V q cap c) : c ≤ cap := h.2.2.2.2.2.2.2.1
theorem SBI.m {sh : List mm_C} {V : hV} {q cap c : Nat} (h : SBI sh V q cap c) : cap ≤ 100000 := h.2.2.2.2.2.2.2.2.1.2
theorem SBI.l {sh : List mm_C} {V : hV} {q cap c : Nat} (h : SBI sh V q cap c) : 16 ≤ cap := h.2.2.2.2.2.2.2.2.1.1
theorem SBI.b {sh : List mm_C} {V : hV} {q cap c : Nat} (h : SBI sh V q cap c) : ∀ j, isB (V.1 q j) := h.2.2.2.2.2.2.2.2.2
theorem mx_le {a b : Nat} (h : a ≤ b) (hb : b < 2147483648) : (if Int32.ofNat a < Int32.ofNat b then Int32.ofNat b else Int32.ofNat a) = Int32.ofNat b := by
  by_cases e : a = b
  · subst e
    split <;> rfl
  · exact if_pos (i_lt (by omega) hb)
theorem mn_le {a b : Nat} (h : a ≤ b) (hb : b < 2147483648) : (if Int32.ofNat b < Int32.ofNat a then Int32.ofNat b else Int32.ofNat a) = Int32.ofNat a := if_neg (i_nlt h hb)
theorem i_subN {a b : Nat} (h : a ≤ b) : Int32.ofNat b - Int32.ofNat a = Int32.ofNat (b - a) := by
  rw [show Int32.ofNat b = Int32.ofNat (b - a) + Int32.ofNat a from by rw [i_add, Nat.sub_add_cancel h]]
  exact Int32.add_sub_cancel _ _
theorem sh0 (x : Int32) : x <<< ((0 : Int32) &&& 31) = x := by
  rw [show (0 : Int32) &&& 31 = 0 from rfl]
  simp
theorem sr0 (x : Int32) : x >>> ((0 : Int32) &&& 31) = x := by
  rw [show (0 : Int32) &&& 31 = 0 from rfl]
  simp
theorem e_sblat {S : ww_S} {sh : List mm_C} {V : hV} {q cap c : Nat} (hB : SBI sh V q cap c) : EV S 1 354 [.ref 183] (hH sh V) (.inl (some (.int (bI true)))) (hH sh V) := by
  refine ev_qe P354 rfl ?_
  refine wp_getstatic k354_0 rfl ?_
  refine wp_if_eq_F k354_3 (by decide) ?_
  refine wp_aload_n k354_6 rfl rfl ?_
  refine wp_getI k354_7 (by decide) hB.o rfl _ hB.cd ?_
  refine wp_if_ne_F k354_10 rfl ?_
  refine wp_iconst 1 k354_13 (by decide) ?_
  refine wp_goto k354_14 ?_
  exact wp_retz k354_18 rfl rfl rfl
theorem e_newlen {S : ww_S} {h : mm_H} {a g p : Nat} (hg : g ≤ p) (h1 : 1 ≤ a + p) (h2 : a + p ≤ 1000000) : EV S 1 408 [.int (Int32.ofNat a), .int (Int32.ofNat g), .int (Int32.ofNat p)] h (.inl (some (.int (Int32.ofNat (a + p))))) h := by
  refine ev_qe P408 rfl ?_
  refine wp_iload_n k408_0 rfl rfl ?_
  refine wp_iload_n k408_1 rfl rfl ?_
  refine wp_iload_n k408_2 rfl rfl ?_
  refine wp_max k408_3 rfl ?_
  refine wp_cast (mx_le hg (by omega)) ?_
  refine wp_iadd k408_6 ?_
  refine wp_cast (i_add a p) ?_
  refine wp_istore_n (L1 := [_, _, _, _]) k408_7 rfl rfl ?_
  refine wp_iconst 0 k408_8 (by decide) ?_
  refine wp_iload_n k408_9 rfl rfl ?_
  refine wp_if_icmp_ge_F k408_10 (i_lt (k := 0) (by omega) (by omega)) ?_
  refine wp_iload_n k408_13 rfl rfl ?_
  refine wp_ldcI 2147483639 k408_14 (by decide) ?_
  refine wp_if_icmp_gt_F k408_16 (i_nlt (k := 2147483639) (n := a + p) (by omega) (by decide)) ?_
  refine wp_iload_n k408_19 rfl rfl ?_
  exact wp_reti k408_20 rfl rfl rfl
theorem e_newcap {S : ww_S} {sh : List mm_C} {V : hV} {q cap c n : Nat} (hB : SBI sh V q cap c) (h1 : cap < n) (h2 : n ≤ 2 * cap + 2) : EV S 2 345 [.ref 183, .int (Int32.ofNat n)] (hH sh V) (.inl (some (.int (Int32.ofNat (2 * cap + 2))))) (hH sh V) := by
  have hm := hB.m
  refine ev_qe P345 rfl ?_
  refine wp_aload_n k345_0 rfl rfl ?_
  refine wp_getR k345_1 (by decide) hB.o rfl ?_
  refine wp_alen k345_4 rfl hB.q64 hB.s ?_
  refine wp_istore_n (L1 := [_, _, _, _, _, _]) k345_5 rfl rfl ?_
  refine wp_iload_n k345_6 rfl rfl ?_
  refine wp_aload_n k345_7 rfl rfl ?_
  refine wp_getI k345_8 (by decide) hB.o rfl _ hB.cd ?_
  refine wp_ishl k345_11 ?_
  refine wp_cast (sh0 _) ?_
  refine wp_istore_n (L1 := [_, _, _, _, _, _]) k345_12 rfl rfl ?_
  refine wp_iload_n k345_13 rfl rfl ?_
  refine wp_iload_n k345_14 rfl rfl ?_
  refine wp_isub k345_15 ?_
  refine wp_cast (i_subN (by omega)) ?_
  refine wp_istore (L1 := [_, _, _, _, _, _]) k345_16 rfl rfl ?_
  refine wp_iload_n k345_18 rfl rfl ?_
  refine wp_iload k345_19 rfl rfl ?_
  refine wp_iload_n k345_21 rfl rfl ?_
  refine wp_iconst 2 k345_22 (by decide) ?_
  refine wp_aload_n k345_23 rfl rfl ?_
  refine wp_getI k345_24 (by decide) hB.o rfl _ hB.cd ?_
  refine wp_ishl k345_27 ?_
  refine wp_cast (sh0 _) ?_
  refine wp_iadd k345_28 ?_
  refine wp_cast (i_add cap 2) ?_
  refine wp_cs (st2 := []) k345_29 (e_newlen (by omega) (by omega) (by omega)) (by decide) rfl rfl rfl (by decide) ?_
  refine wp_cast (show Int32.ofNat (cap + (cap + 2)) = Int32.ofNat (2 * cap + 2) from by rw [show cap + (cap + 2) = 2 * cap + 2 by omega]) ?_
  refine wp_istore (L1 := [_, _, _, _, _, _]) k345_32 rfl rfl ?_
  refine wp_iload k345_34 rfl rfl ?_
  refine wp_ldcI 2147483647 k345_36 (by decide) ?_
  refine wp_if_icmp_ne_T k345_38 (fun z => by have hq := i_lt (k := 2 * cap + 2) (n := 2147483647) (by omega) (by decide); rw [show Int32.ofNat (2 * cap + 2) = Int32.ofNat 2147483647 from z] at hq; exact Int32.lt_irrefl hq) ?_
  refine wp_iload k345_51 rfl rfl ?_
  refine wp_aload_n k345_53 rfl rfl ?_
  refine wp_getI k345_54 (by decide) hB.o rfl _ hB.cd ?_
  refine wp_ishr k345_57 ?_
  refine wp_cast (sr0 _) ?_
  exact wp_reti k345_58 rfl rfl rfl
theorem e_copyof {S : ww_S} {sh : List mm_C} {V : hV} {q cap c n : Nat} (hB : SBI sh V q cap c) (h1 : cap < n) (h2 : n ≤ 100000) : EV S 1 404 [.ref q, .int (Int32.ofNat n)] (hH sh V) (.inl (some (.ref (64 + sh.length)))) (hH (sh ++ [.inl (2, n, 0)]) (acp (clr V (64 + sh.length)) q 0 (64 + sh.length) 0 cap)) := by
  have hm := hB.m
  have hlt := hB.lt
  have hs := ap_old (l := [.inl (2, n, 0)]) hB.s
  refine ev_qe P404 rfl ?_
  refine wp_iload_n k404_0 rfl rfl ?_
  refine wp_aload_n k404_1 rfl rfl ?_
  refine wp_alen k404_2 rfl hB.q64 hB.s ?_
  refine wp_if_icmp_ne_T k404_3 (fun z => absurd (i_inj (by omega) (by omega) z) (by omega)) ?_
  refine wp_iload_n k404_14 rfl rfl ?_
  refine wp_newarrB (a := 64 + sh.length) k404_15 (by omega) rfl ?_
  refine wp_astore_n (L1 := [_, _, _]) k404_17 rfl rfl ?_
  refine wp_aload_n k404_18 rfl rfl ?_
  refine wp_iconst 0 k404_19 (by decide) ?_
  refine wp_aload_n k404_20 rfl rfl ?_
  refine wp_iconst 0 k404_21 (by decide) ?_
  refine wp_aload_n k404_22 rfl rfl ?_
  refine wp_alen k404_23 rfl hB.q64 hs ?_
  refine wp_iload_n k404_24 rfl rfl ?_
  refine wp_min k404_25 rfl ?_
  refine wp_cast (mn_le (a := cap) (b := n) (by omega) (by omega)) ?_
  refine wp_acopyB (a := 0) (b := 0) (n := cap) k404_28 rfl hB.q64 (by omega) hs (ap_get sh [.inl (2, n, 0)] 0) (by omega) (by omega) (by omega) (by omega) (fun i _ _ => ?_) ?_
  · unfold clr
    dsimp only
    rw [if_neg (by omega)]
    exact hB.b i
  refine wp_aload_n k404_31 rfl rfl ?_
  exact wp_reta k404_32 rfl rfl
end M64
