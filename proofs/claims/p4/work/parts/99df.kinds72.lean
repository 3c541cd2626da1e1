section M72
/-! ===== the class writes: kinds ===== -/
theorem cw140 {S : ww_S} {sh : List mm_C} {V : hV} (hW : WI sh) (hl : 260 ≤ sh.length) (hb : SBok sh V) {p1 : Int32} : EVQ S 7 140 [.ref 64, .int p1] (hH sh V) (xP 0 (V.1 65 4) sh V 16) := by
  have key : ∀ (g i : Nat) (sh1 : List mm_C) (V1 : hV) (q1 cap1 c1 : Nat), g + i = 32 → SBI sh1 V1 q1 cap1 c1 → c1 ≤ 100 * i → FX 0 (V.1 65 4) sh V sh1 V1 → sh.length ≤ sh1.length → WP S 6 mm_m140 15 [some (.ref 64), some (.int p1), some (.int (Int32.ofNat i))] [] (hH sh1 V1) (xP 0 (V.1 65 4) sh V 16) := by
    intro g
    induction g with
    | zero =>
      intro i sh1 V1 q1 cap1 c1 hi hs h2 h3 h4
      have hi : 32 = i := by omega
      subst hi
      obtain ⟨q0, hk⟩ := (h3.2.2.2.1 hW).who
      refine wp_iload_n k140_15 rfl rfl ?_
      refine wp_bipush 32 k140_16 (by decide) ?_
      refine wp_if_icmp_ge_T k140_18 (by decide) ?_
      refine wp_aload_n k140_79 rfl rfl ?_
      refine wq_getR k140_80 hk.1 rfl ?_
      refine wp_cv (st2 := []) k140_83 (e_sbLen hs) (by decide) rfl rfl rfl rfl (by decide) hs.o (by decide) ?_
      exact wp_retI k140_86 rfl ⟨_, _, h3, Or.inl ⟨_, rfl, rfl⟩⟩
    | succ g ih =>
      intro i sh1 V1 q1 cap1 c1 hi hs h2 h3 h4
      obtain ⟨q0, hk⟩ := (h3.2.2.2.1 hW).who
      obtain ⟨v9, g9, E1, b, W1, e1, e2, f1⟩ := cw30 (S := S) (V := V1) hk.2.2.2.2.2.1 (p1 := p1) (p2 := Int32.ofNat i)
      subst e1 e2
      have hs1 := hs.fr f1
      have h31 := h3.q f1
      refine wp_iload_n k140_15 rfl rfl ?_
      refine wp_bipush 32 k140_16 (by decide) ?_
      refine wp_if_icmp_ge_F k140_18 (i_lt (k := i) (n := 32) (by omega) (by decide)) ?_
      refine wp_aload_n k140_21 rfl rfl ?_
      refine wq_getR k140_22 hk.1 rfl ?_
      refine wq_getR k140_25 hk.2.2.2.2.1 rfl ?_
      refine wp_iload_n k140_28 rfl rfl ?_
      refine wp_iload_n k140_29 rfl rfl ?_
      refine wp_cv (st2 := []) k140_30 E1 (by decide) rfl rfl rfl rfl hk.2.2.2.2.2.1.1.h hk.2.2.2.2.2.1.1.o (by decide) ?_
      refine wp_if_eq k140_33 (fun c9 => ?_) (fun c9 => ?_)
      · refine wp_iinc 1 (L1 := [_, _, _]) k140_73 rfl (by decide) rfl ?_
        refine wp_goto k140_76 ?_
        rw [i_succ]
        exact ih (i + 1) _ _ _ _ _ (by omega) hs1 (by omega) h31 h4
      · have go : ∀ (sh2 : List mm_C) (V2 : hV) (q2 cap2 c2 : Nat), SBI sh2 V2 q2 cap2 c2 → c2 ≤ c1 + 1 → FX 0 (V.1 65 4) sh V sh2 V2 → sh.length ≤ sh2.length → WP S 6 mm_m140 56 [some (.ref 64), some (.int p1), some (.int (Int32.ofNat i))] [] (hH sh2 V2) (xP 0 (V.1 65 4) sh V 16) := by
          intro sh2 V2 q2 cap2 c2 hs2 n2 h32 l2
          have hW2 := h32.2.2.2.1 hW
          obtain ⟨q3, hk2⟩ := hW2.who
          obtain ⟨v8, g8, E2, x, W2, e3, e4, f2⟩ := cw29 (S := S) (V := V2) hk2.2.2.2.2.2.1 (p1 := p1) (p2 := Int32.ofNat i)
          subst e3 e4
          have hs3 := hs2.fr f2
          have h33 := h32.q f2
          obtain ⟨v7, g7, E3, sh4, W4, e5, e6, ⟨q4, cap4, c4, hs4, n4⟩, f4, l4⟩ := e_wki (S := S) (w := i) hW2 hs3 (by omega) (by omega) (by omega) (p1 := x)
          subst e5 e6
          refine wp_aload_n k140_56 rfl rfl ?_
          refine wp_aload_n k140_57 rfl rfl ?_
          refine wq_getR k140_58 hk2.1 rfl ?_
          refine wq_getR k140_61 hk2.2.2.2.2.1 rfl ?_
          refine wp_iload_n k140_64 rfl rfl ?_
          refine wp_iload_n k140_65 rfl rfl ?_
          refine wp_cv (st2 := [_]) k140_66 E2 (by decide) rfl rfl rfl rfl hk2.2.2.2.2.2.1.1.h hk2.2.2.2.2.2.1.1.o (by decide) ?_
          refine wp_iload_n k140_69 rfl rfl ?_
          refine wp_cvn (st2 := []) k140_70 E3 (by decide) rfl rfl rfl rfl (by decide) hk2.1.o (by decide) ?_
          refine wp_iinc 1 (L1 := [_, _, _]) k140_73 rfl (by decide) rfl ?_
          refine wp_goto k140_76 ?_
          rw [i_succ]
          exact ih (i + 1) _ _ _ _ _ (by omega) hs4 (by omega) (h33.u f4) (by omega)
        refine wp_aload_n k140_36 rfl rfl ?_
        refine wq_getR k140_37 hk.1 rfl ?_
        refine wp_cv (st2 := []) k140_40 (e_sbLen hs1) (by decide) rfl rfl rfl rfl (by decide) hs1.o (by decide) ?_
        refine wp_if_le k140_43 (fun c8 => ?_) (fun c8 => ?_)
        · exact go _ _ _ _ _ hs1 (by omega) h31 h4
        · obtain ⟨sh2, V2, q2, cap2, E2, hs2, f2, l2⟩ := e_apC (S := S) (x := 124) hs1 (by omega) (by omega) (by decide)
          refine wp_aload_n k140_46 rfl rfl ?_
          refine wq_getR k140_47 hk.1 rfl ?_
          refine wp_bipush 124 k140_50 (by decide) ?_
          refine wp_cv (st2 := []) k140_52 E2 (by decide) rfl rfl rfl rfl (by decide) hs1.o (by decide) ?_
          refine wp_pop k140_55 rfl ?_
          exact go _ _ _ _ _ hs2 (by omega) (h31.u f2) (by omega)
  obtain ⟨q0, hk⟩ := hW.who
  obtain ⟨q, cap, c, hB⟩ := hb
  refine ev_of P140 rfl ?_
  refine wp_aload_n k140_0 rfl rfl ?_
  refine wp_iload_n k140_1 rfl rfl ?_
  refine wcvT (st2 := []) k140_2 (cw146 (S := S) hk) (by decide) rfl rfl rfl rfl (by decide) hk.1.o (by decide) rfl (fun W2 g2 => ?_) (fun W2 g2 => ?_)
  rotate_left 1
  · exact ⟨_, _, (fx_0 sh V).q g2, Or.inr ⟨rfl, rfl⟩⟩
  have hB2 := SBI.fr g2 hB
  obtain ⟨sh1, V1, q1, cap1, E1, hs1, f1, l1⟩ := e_sbZ (S := S) hB2 hl
  refine wp_aload_n k140_5 rfl rfl ?_
  refine wq_getR k140_6 hk.1 rfl ?_
  refine wp_iconst 0 k140_9 (by decide) ?_
  refine wp_cvn (st2 := []) k140_10 E1 (by decide) rfl rfl rfl rfl (by decide) hB2.o (by decide) ?_
  refine wp_iconst 0 k140_13 (by decide) ?_
  refine wp_istore_n (L1 := [_, _, _]) k140_14 rfl rfl ?_
  exact key 32 0 sh1 V1 q1 cap1 0 rfl hs1 (by omega) (((fx_0 sh V).q g2).u f1) l1
end M72
