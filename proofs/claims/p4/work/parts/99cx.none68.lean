section M68
/-! ===== the output: emptied ===== -/
theorem e_sb0 {S : ww_S} {sh : List mm_C} {V : hV} {q cap c : Nat} (hB : SBI sh V q cap c) (hl : 260 ≤ sh.length) : ∃ sh' W q' cap', EV S 4 347 [.ref 183, .int 0] (hH sh V) (.inl none) (hH sh' W) ∧ SBI sh' W q' cap' 0 ∧ FX 0 (V.1 65 4) sh V sh' W ∧ sh.length ≤ sh'.length := by
  have hle := hB.le
  have hm := hB.m
  obtain ⟨sh1, W1, q1, cap1, E1, hs1, hn1, hF1, hl1, hc1⟩ := e_ensure (S := S) (n := 0) hB hl (by omega) (by omega)
  have E1 : EV S 3 344 [.ref 183, .int 0] (hH sh V) (.inl none) (hH sh1 W1) := E1
  have hne := hs1.2.2.1
  have h65 : W1.1 65 4 = V.1 65 4 := hF1.1
  by_cases hz : c = 0
  · skip
    have hs3 : SBI sh1 (up W1 183 3 0) q1 cap1 0 := by
      refine ⟨hs1.1, hs1.2.1, hne, hs1.o, hs1.s, (up_ne _ _ (Or.inr (by decide))).trans hs1.cd, up_eq _ _ _ _, Nat.zero_le _, ⟨hs1.l, hs1.m⟩, fun j => ?_⟩
      rw [up_ne _ _ (Or.inl hne)]
      exact hs1.b j
    have hF3 := fx_v hs1 (W := up W1 183 3 0) (fun b h1 h2 => ⟨funext fun j => up_ne _ _ (Or.inl h1), rfl⟩) hs3
    refine ⟨sh1, _, q1, cap1, ev_qe P347 rfl ?_, hs3, by have := hF1.t hF3; rw [h65] at this; exact this, hl1⟩
    refine wp_iload_n k347_0 rfl rfl ?_
    refine wp_if_ge_T k347_1 (by decide) ?_
    refine wp_aload_n k347_13 rfl rfl ?_
    refine wp_iload_n k347_14 rfl rfl ?_
    refine wp_cvn (st2 := []) k347_15 E1 (by decide) rfl rfl rfl rfl (by decide) hB.o (by decide) ?_
    refine wp_aload_n k347_18 rfl rfl ?_
    refine wp_getI k347_19 (by decide) hs1.o rfl _ hs1.n ?_
    refine wp_iload_n k347_22 rfl rfl ?_
    refine wp_if_icmp_ge_T k347_23 (i_nlt (k := c) (n := 0) (by omega) (by omega)) ?_
    refine wp_aload_n k347_63 rfl rfl ?_
    refine wp_getI k347_64 (by decide) hs1.o rfl _ hs1.n ?_
    refine wp_iload_n k347_67 rfl rfl ?_
    refine wp_if_icmp_le_T k347_68 (i_nlt (k := 0) (n := c) (by omega) (by omega)) ?_
    refine wp_aload_n k347_76 rfl rfl ?_
    refine wp_iload_n k347_77 rfl rfl ?_
    refine wp_putI k347_78 (by decide) hs1.o rfl rfl rfl ?_
    exact wp_retn k347_81 rfl rfl
  · skip
    have hs3 : SBI sh1 (up (up W1 183 2 1) 183 3 0) q1 cap1 0 := by
      refine ⟨hs1.1, hs1.2.1, hne, hs1.o, hs1.s, (up_ne _ _ (Or.inr (by decide))).trans ((up_ne _ _ (Or.inr (by decide))).trans hs1.cd), up_eq _ _ _ _, Nat.zero_le _, ⟨hs1.l, hs1.m⟩, fun j => ?_⟩
      rw [up_ne _ _ (Or.inl hne), up_ne _ _ (Or.inl hne)]
      exact hs1.b j
    have hF3 := fx_v hs1 (W := up (up W1 183 2 1) 183 3 0) (fun b h1 h2 => ⟨(funext fun j => up_ne _ _ (Or.inl h1)).trans (funext fun j => up_ne _ _ (Or.inl h1)), rfl⟩) hs3
    refine ⟨sh1, _, q1, cap1, ev_qe P347 rfl ?_, hs3, by have := hF1.t hF3; rw [h65] at this; exact this, hl1⟩
    refine wp_iload_n k347_0 rfl rfl ?_
    refine wp_if_ge_T k347_1 (by decide) ?_
    refine wp_aload_n k347_13 rfl rfl ?_
    refine wp_iload_n k347_14 rfl rfl ?_
    refine wp_cvn (st2 := []) k347_15 E1 (by decide) rfl rfl rfl rfl (by decide) hB.o (by decide) ?_
    refine wp_aload_n k347_18 rfl rfl ?_
    refine wp_getI k347_19 (by decide) hs1.o rfl _ hs1.n ?_
    refine wp_iload_n k347_22 rfl rfl ?_
    refine wp_if_icmp_ge_T k347_23 (i_nlt (k := c) (n := 0) (by omega) (by omega)) ?_
    refine wp_aload_n k347_63 rfl rfl ?_
    refine wp_getI k347_64 (by decide) hs1.o rfl _ hs1.n ?_
    refine wp_iload_n k347_67 rfl rfl ?_
    refine wp_if_icmp_le_F k347_68 (i_lt (k := 0) (n := c) (by omega) (by omega)) ?_
    refine wp_aload_n k347_71 rfl rfl ?_
    refine wp_iconst 1 k347_72 (by decide) ?_
    refine wp_putI k347_73 (by decide) hs1.o rfl rfl rfl ?_
    refine wp_aload_n k347_76 rfl rfl ?_
    refine wp_iload_n k347_77 rfl rfl ?_
    refine wp_putI k347_78 (by decide) hs1.o rfl rfl rfl ?_
    exact wp_retn k347_81 rfl rfl
theorem e_sbZ {S : ww_S} {sh : List mm_C} {V : hV} {q cap c : Nat} (hB : SBI sh V q cap c) (hl : 260 ≤ sh.length) : ∃ sh' W q' cap', EV S 5 377 [.ref 183, .int 0] (hH sh V) (.inl none) (hH sh' W) ∧ SBI sh' W q' cap' 0 ∧ FX 0 (V.1 65 4) sh V sh' W ∧ sh.length ≤ sh'.length := by
  obtain ⟨sh1, W1, q1, cap1, E1, hr⟩ := e_sb0 (S := S) hB hl
  refine ⟨sh1, W1, q1, cap1, ev_qe P377 rfl ?_, hr⟩
  refine wp_aload_n k377_0 rfl rfl ?_
  refine wp_iload_n k377_1 rfl rfl ?_
  refine wp_c4n (st2 := []) k377_2 E1 rfl rfl rfl rfl (by decide) hB.o (by decide) ?_
  exact wp_retn k377_5 rfl rfl
end M68
