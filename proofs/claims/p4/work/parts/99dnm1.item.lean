section N_m
/-! ===== the class, exactly: an item of a formula ===== -/
theorem s_isPrefix {S : ww_S} {h : mm_H} {s : Int32} : EV S 1 164 [.int s] h (.inl (some (.int (bI (decide (¬ s < 1 ∧ ¬ 5 < s)))))) h := by
  refine ev_qe P164 rfl ?_
  refine wp_iload_n k164_0 rfl rfl ?_
  refine wp_iconst 1 k164_1 (by decide) ?_
  by_cases c1 : s < 1
  · refine wp_if_icmp_lt_T k164_2 c1 ?_
    refine wp_iconst 0 k164_14 (by decide) ?_
    exact wp_retz k164_15 rfl (by rw [decide_eq_false (fun q => q.1 c1)]; rfl) rfl
  · refine wp_if_icmp_lt_F k164_2 c1 ?_
    refine wp_iload_n k164_5 rfl rfl ?_
    refine wp_iconst 5 k164_6 (by decide) ?_
    by_cases c2 : 5 < s
    · refine wp_if_icmp_gt_T k164_7 c2 ?_
      refine wp_iconst 0 k164_14 (by decide) ?_
      exact wp_retz k164_15 rfl (by rw [decide_eq_false (fun q => q.2 c2)]; rfl) rfl
    · refine wp_if_icmp_gt_F k164_7 c2 ?_
      refine wp_iconst 1 k164_10 (by decide) ?_
      refine wp_goto k164_11 ?_
      exact wp_retz k164_15 rfl (by rw [decide_eq_true ⟨c1, c2⟩]; rfl) rfl
theorem s_isJoin {S : ww_S} {h : mm_H} {s : Int32} : EV S 1 165 [.int s] h (.inl (some (.int (bI (decide (s = 6 ∨ s = 7)))))) h := by
  refine ev_qe P165 rfl ?_
  refine wp_iload_n k165_0 rfl rfl ?_
  refine wp_bipush 6 k165_1 (by decide) ?_
  by_cases c1 : s = 6
  · refine wp_if_icmp_eq_T k165_3 c1 ?_
    refine wp_iconst 1 k165_12 (by decide) ?_
    refine wp_goto k165_13 ?_
    exact wp_retz k165_17 rfl (by rw [decide_eq_true (Or.inl c1)]; rfl) rfl
  · refine wp_if_icmp_eq_F k165_3 c1 ?_
    refine wp_iload_n k165_6 rfl rfl ?_
    refine wp_bipush 7 k165_7 (by decide) ?_
    by_cases c2 : s = 7
    · refine wp_if_icmp_ne_F k165_9 c2 ?_
      refine wp_iconst 1 k165_12 (by decide) ?_
      refine wp_goto k165_13 ?_
      exact wp_retz k165_17 rfl (by rw [decide_eq_true (Or.inr c2)]; rfl) rfl
    · refine wp_if_icmp_ne_T k165_9 c2 ?_
      refine wp_iconst 0 k165_16 (by decide) ?_
      exact wp_retz k165_17 rfl (by rw [decide_eq_false (fun q => q.elim c1 c2)]; rfl) rfl
theorem s_namesPerson {S : ww_S} {h : mm_H} {s : Int32} : EV S 1 166 [.int s] h (.inl (some (.int (bI (decide (s = 2 ∨ s = 3)))))) h := by
  refine ev_qe P166 rfl ?_
  refine wp_iload_n k166_0 rfl rfl ?_
  refine wp_iconst 2 k166_1 (by decide) ?_
  by_cases c1 : s = 2
  · refine wp_if_icmp_eq_T k166_2 c1 ?_
    refine wp_iconst 1 k166_10 (by decide) ?_
    refine wp_goto k166_11 ?_
    exact wp_retz k166_15 rfl (by rw [decide_eq_true (Or.inl c1)]; rfl) rfl
  · refine wp_if_icmp_eq_F k166_2 c1 ?_
    refine wp_iload_n k166_5 rfl rfl ?_
    refine wp_iconst 3 k166_6 (by decide) ?_
    by_cases c2 : s = 3
    · refine wp_if_icmp_ne_F k166_7 c2 ?_
      refine wp_iconst 1 k166_10 (by decide) ?_
      refine wp_goto k166_11 ?_
      exact wp_retz k166_15 rfl (by rw [decide_eq_true (Or.inr c2)]; rfl) rfl
    · refine wp_if_icmp_ne_T k166_7 c2 ?_
      refine wp_iconst 0 k166_14 (by decide) ?_
      exact wp_retz k166_15 rfl (by rw [decide_eq_false (fun q => q.elim c1 c2)]; rfl) rfl
theorem s_clear {S : ww_S} {sh : List mm_C} {V : hV} {a : Nat} (h : kForm sh a) (ha : a = 72 ∨ 82 ≤ a) : EV S 1 8 [.ref a] (hH sh V) (.inl none) (hH sh (up V a 3 0)) ∧ FOS sh (up V a 3 0) a [] := by
  refine ⟨?_, h, ha, up_eq _ _ _ _, fun i x hx => by cases hx⟩
  refine ev_qe P8 rfl ?_
  refine wp_aload_n k8_0 rfl rfl ?_
  refine wp_iconst 0 k8_1 (by decide) ?_
  refine wp_putI k8_2 h.1.h h.1.o rfl rfl rfl ?_
  exact wp_retn k8_5 rfl rfl
end N_m
