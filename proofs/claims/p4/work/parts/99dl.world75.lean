section M75
/-! ===== the class writes: a world ===== -/
theorem cw139 {S : ww_S} {sh : List mm_C} {V : hV} (hW : WI sh) (hC : CN sh V) (hl : 260 ≤ sh.length) (hb : SBok sh V) {p1 : Int32} : EVQ S 7 139 [.ref 64, .int p1] (hH sh V) (xP 0 (V.1 65 4) sh V 16) := by
  have p148 : ∀ (sh1 : List mm_C) (V1 : hV) (q1 cap1 c1 : Nat) (y z : Int32), SBI sh1 V1 q1 cap1 c1 → FX 0 (V.1 65 4) sh V sh1 V1 → WP S 6 mm_m139 148 [some (.ref 64), some (.int p1), some (.int y), some (.int z)] [] (hH sh1 V1) (xP 0 (V.1 65 4) sh V 16) := by
    intro sh1 V1 q1 cap1 c1 y z hs h3
    obtain ⟨q0, hk⟩ := (h3.2.2.2.1 hW).who
    refine wp_aload_n k139_148 rfl rfl ?_
    refine wq_getR k139_149 hk.1 rfl ?_
    refine wp_cv (st2 := []) k139_152 (e_sbLen hs) (by decide) rfl rfl rfl rfl (by decide) hs.o (by decide) ?_
    exact wp_retI k139_155 rfl ⟨_, _, h3, Or.inl ⟨_, rfl, rfl⟩⟩
  have p134 : ∀ (sh1 : List mm_C) (V1 : hV) (q1 cap1 c1 : Nat) (y z : Int32), SBI sh1 V1 q1 cap1 c1 → c1 ≤ 100 → FX 0 (V.1 65 4) sh V sh1 V1 → sh.length ≤ sh1.length → WP S 6 mm_m139 134 [some (.ref 64), some (.int p1), some (.int y), some (.int z)] [] (hH sh1 V1) (xP 0 (V.1 65 4) sh V 16) := by
    intro sh1 V1 q1 cap1 c1 y z hs h2 h3 h4
    obtain ⟨q0, hk⟩ := (h3.2.2.2.1 hW).who
    obtain ⟨sh2, V2, q2, cap2, E2, hs2, f2, l2⟩ := e_apC (S := S) (x := 45) hs (by omega) (by omega) (by decide)
    refine wp_iload_n k139_134 rfl rfl ?_
    refine wp_if_eq k139_135 (fun c9 => ?_) (fun c9 => ?_)
    · exact p148 _ _ _ _ _ _ _ hs h3
    · refine wp_aload_n k139_138 rfl rfl ?_
      refine wq_getR k139_139 hk.1 rfl ?_
      refine wp_bipush 45 k139_142 (by decide) ?_
      refine wp_cv (st2 := []) k139_144 E2 (by decide) rfl rfl rfl rfl (by decide) hs.o (by decide) ?_
      refine wp_pop k139_147 rfl ?_
      exact p148 _ _ _ _ _ _ _ hs2 (h3.u f2)
  have key : ∀ (g i : Nat) (sh1 : List mm_C) (V1 : hV) (q1 cap1 c1 : Nat) (y : Int32), g + i = 5 → SBI sh1 V1 q1 cap1 c1 → c1 ≤ 10 + 7 * i → FX 0 (V.1 65 4) sh V sh1 V1 → sh.length ≤ sh1.length → WP S 6 mm_m139 69 [some (.ref 64), some (.int p1), some (.int y), some (.int (Int32.ofNat i))] [] (hH sh1 V1) (xP 0 (V.1 65 4) sh V 16) := by
    intro g
    induction g with
    | zero =>
      intro i sh1 V1 q1 cap1 c1 y hi hs h2 h3 h4
      have hi : 5 = i := by omega
      subst hi
      obtain ⟨q0, hk⟩ := (h3.2.2.2.1 hW).who
      obtain ⟨n, hn, hn2⟩ := (h3.2.2.2.2.1 hC) _ _ hk.2.2.2.2.2.2.2.2.2.1.1.h hk.2.2.2.2.2.2.2.2.2.1.1.o
      refine wp_iload_n k139_69 rfl rfl ?_
      refine wp_aload_n k139_70 rfl rfl ?_
      refine wq_getR k139_71 hk.1 rfl ?_
      refine wq_getR k139_74 hk.2.2.2.2.1 rfl ?_
      refine wq_getR k139_77 hk.2.2.2.2.2.2.2.2.1 rfl ?_
      refine wq_getI k139_80 hk.2.2.2.2.2.2.2.2.2.1.1 rfl ?_
      refine wp_cast hn2 ?_
      refine wp_if_icmp_ge_T k139_83 (i_nlt (k := 5) (n := n) hn (by decide)) ?_
      exact p134 _ _ _ _ _ _ _ hs (by omega) h3 h4
    | succ g ih =>
      intro i sh1 V1 q1 cap1 c1 y hi hs h2 h3 h4
      obtain ⟨q0, hk⟩ := (h3.2.2.2.1 hW).who
      obtain ⟨n, hn, hn2⟩ := (h3.2.2.2.2.1 hC) _ _ hk.2.2.2.2.2.2.2.2.2.1.1.h hk.2.2.2.2.2.2.2.2.2.1.1.o
      obtain ⟨v9, g9, E1, b, W1, e1, e2, f1⟩ := cw159 (S := S) (sh := sh1) (V := V1) (p0 := p1) (p1 := Int32.ofNat i)
      subst e1 e2
      have hs1 := hs.fr f1
      have h31 := h3.q f1
      have go : ∀ (sh2 : List mm_C) (V2 : hV) (q2 cap2 c2 : Nat), SBI sh2 V2 q2 cap2 c2 → c2 ≤ c1 + 1 → FX 0 (V.1 65 4) sh V sh2 V2 → sh.length ≤ sh2.length → WP S 6 mm_m139 108 [some (.ref 64), some (.int p1), some (.int y), some (.int (Int32.ofNat i))] [] (hH sh2 V2) (xP 0 (V.1 65 4) sh V 16) := by
        intro sh2 V2 q2 cap2 c2 hs2 n2 h32 l2
        obtain ⟨q3, hk⟩ := (h32.2.2.2.1 hW).who
        obtain ⟨v7, g7, E3, sh4, W4, e5, e6, ⟨q4, cap4, c4, hs4, n4⟩, f4, l4⟩ := e_nwr (S := S) hk.2.2.2.2.2.2.2.2.2.1 hs2 (by omega) (by omega) (p1 := Int32.ofNat i)
        subst e5 e6
        refine wp_aload_n k139_108 rfl rfl ?_
        refine wq_getR k139_109 hk.1 rfl ?_
        refine wq_getR k139_112 hk.2.2.2.2.1 rfl ?_
        refine wq_getR k139_115 hk.2.2.2.2.2.2.2.2.1 rfl ?_
        refine wp_aload_n k139_118 rfl rfl ?_
        refine wq_getR k139_119 hk.1 rfl ?_
        refine wp_iload_n k139_122 rfl rfl ?_
        refine wp_cvn (st2 := []) k139_123 E3 (by decide) rfl rfl rfl rfl hk.2.2.2.2.2.2.2.2.2.1.1.h hk.2.2.2.2.2.2.2.2.2.1.1.o (by decide) ?_
        refine wp_iconst 0 k139_126 (by decide) ?_
        refine wp_istore_n (L1 := [_, _, _, _]) k139_127 rfl rfl ?_
        refine wp_iinc 1 (L1 := [_, _, _, _]) k139_128 rfl (by decide) rfl ?_
        refine wp_goto k139_131 ?_
        rw [i_succ]
        exact ih (i + 1) _ _ _ _ _ _ (by omega) hs4 (by omega) (h32.u f4) (by omega)
      refine wp_iload_n k139_69 rfl rfl ?_
      refine wp_aload_n k139_70 rfl rfl ?_
      refine wq_getR k139_71 hk.1 rfl ?_
      refine wq_getR k139_74 hk.2.2.2.2.1 rfl ?_
      refine wq_getR k139_77 hk.2.2.2.2.2.2.2.2.1 rfl ?_
      refine wq_getI k139_80 hk.2.2.2.2.2.2.2.2.2.1.1 rfl ?_
      refine wp_if_icmp_ge k139_83 (fun c7 => ?_) (fun c7 => ?_)
      · exact p134 _ _ _ _ _ _ _ hs (by omega) h3 h4
      · refine wp_iload_n k139_86 rfl rfl ?_
        refine wp_iload_n k139_87 rfl rfl ?_
        refine wp_cs (st2 := []) k139_88 E1 (by decide) rfl rfl rfl (by decide) ?_
        refine wp_if_eq k139_91 (fun c9 => ?_) (fun c9 => ?_)
        · refine wp_iinc 1 (L1 := [_, _, _, _]) k139_128 rfl (by decide) rfl ?_
          refine wp_goto k139_131 ?_
          rw [i_succ]
          exact ih (i + 1) _ _ _ _ _ _ (by omega) hs1 (by omega) h31 h4
        · refine wp_iload_n k139_94 rfl rfl ?_
          refine wp_if_ne k139_95 (fun c8 => ?_) (fun c8 => ?_)
          · exact go _ _ _ _ _ hs1 (by omega) h31 h4
          · obtain ⟨sh2, V2, q2, cap2, E2, hs2, f2, l2⟩ := e_apC (S := S) (x := 43) hs1 (by omega) (by omega) (by decide)
            refine wp_aload_n k139_98 rfl rfl ?_
            refine wq_getR k139_99 hk.1 rfl ?_
            refine wp_bipush 43 k139_102 (by decide) ?_
            refine wp_cv (st2 := []) k139_104 E2 (by decide) rfl rfl rfl rfl (by decide) hs1.o (by decide) ?_
            refine wp_pop k139_107 rfl ?_
            exact go _ _ _ _ _ hs2 (by omega) (h31.u f2) (by omega)
  have p65 : ∀ (sh1 : List mm_C) (V1 : hV) (q1 cap1 c1 : Nat), SBI sh1 V1 q1 cap1 c1 → c1 ≤ 10 → FX 0 (V.1 65 4) sh V sh1 V1 → sh.length ≤ sh1.length → WP S 6 mm_m139 65 [some (.ref 64), some (.int p1), none, none] [] (hH sh1 V1) (xP 0 (V.1 65 4) sh V 16) := by
    intro sh1 V1 q1 cap1 c1 hs h2 h3 h4
    refine wp_iconst 1 k139_65 (by decide) ?_
    refine wp_istore_n (L1 := [_, _, _, _]) k139_66 rfl rfl ?_
    refine wp_iconst 0 k139_67 (by decide) ?_
    refine wp_istore_n (L1 := [_, _, _, _]) k139_68 rfl rfl ?_
    exact key 5 0 _ _ _ _ _ _ rfl hs (by omega) h3 h4
  have p41 : ∀ (sh1 : List mm_C) (V1 : hV) (q1 cap1 c1 : Nat), SBI sh1 V1 q1 cap1 c1 → c1 ≤ 9 → FX 0 (V.1 65 4) sh V sh1 V1 → sh.length ≤ sh1.length → WP S 6 mm_m139 41 [some (.ref 64), some (.int p1), none, none] [] (hH sh1 V1) (xP 0 (V.1 65 4) sh V 16) := by
    intro sh1 V1 q1 cap1 c1 hs h2 h3 h4
    obtain ⟨q0, hk⟩ := (h3.2.2.2.1 hW).who
    obtain ⟨sh2, V2, q2, cap2, E2, hs2, f2, l2⟩ := e_apC (S := S) (x := 33) hs (by omega) (by omega) (by decide)
    refine wp_iload_n k139_41 rfl rfl ?_
    refine wp_aload_n k139_42 rfl rfl ?_
    refine wq_getR k139_43 hk.1 rfl ?_
    refine wq_getR k139_46 hk.2.2.2.2.1 rfl ?_
    refine wq_getI k139_49 hk.2.2.2.2.2.2.2.2.1 rfl ?_
    refine wp_if_icmp_ne k139_52 (fun c9 => ?_) (fun c9 => ?_)
    · exact p65 _ _ _ _ _ hs (by omega) h3 h4
    · refine wp_aload_n k139_55 rfl rfl ?_
      refine wq_getR k139_56 hk.1 rfl ?_
      refine wp_bipush 33 k139_59 (by decide) ?_
      refine wp_cv (st2 := []) k139_61 E2 (by decide) rfl rfl rfl rfl (by decide) hs.o (by decide) ?_
      refine wp_pop k139_64 rfl ?_
      exact p65 _ _ _ _ _ hs2 (by omega) (h3.u f2) (by omega)
  obtain ⟨q0, hk⟩ := hW.who
  obtain ⟨q, cap, c, hB⟩ := hb
  refine ev_of P139 rfl ?_
  refine wp_aload_n k139_0 rfl rfl ?_
  refine wp_iload_n k139_1 rfl rfl ?_
  refine wcvT (st2 := []) k139_2 (cw148 (S := S) hk) (by decide) rfl rfl rfl rfl (by decide) hk.1.o (by decide) rfl (fun W2 g2 => ?_) (fun W2 g2 => ?_)
  rotate_left 1
  · exact ⟨_, _, (fx_0 sh V).q g2, Or.inr ⟨rfl, rfl⟩⟩
  have hB2 := SBI.fr g2 hB
  obtain ⟨sh1, V1, q1, cap1, E1, hs1, f1, l1⟩ := e_sbZ (S := S) hB2 hl
  have f1 := ((fx_0 sh V).q g2).u f1
  obtain ⟨q5, hk5⟩ := (f1.2.2.2.1 hW).who
  obtain ⟨v9, g9, E3, b, W3, e1, e2, f3⟩ := cw159 (S := S) (sh := sh1) (V := V1) (p0 := V1.1 192 1) (p1 := p1)
  subst e1 e2
  have hs3 := hs1.fr f3
  have f13 := f1.q f3
  have h46 := XS46.w
  obtain ⟨sh4, V4, q4, cap4, E4, hs4, hcap4, f4, l4⟩ := e_apS (S := S) hs3 (by omega) (by omega) XS46 h46.2 h46.1
  refine wp_aload_n k139_5 rfl rfl ?_
  refine wq_getR k139_6 hk.1 rfl ?_
  refine wp_iconst 0 k139_9 (by decide) ?_
  refine wp_cvn (st2 := []) k139_10 E1 (by decide) rfl rfl rfl rfl (by decide) hB2.o (by decide) ?_
  refine wp_aload_n k139_13 rfl rfl ?_
  refine wq_getR k139_14 hk5.1 rfl ?_
  refine wq_getR k139_17 hk5.2.2.2.2.1 rfl ?_
  refine wq_getI k139_20 hk5.2.2.2.2.2.1.1 rfl ?_
  refine wp_iload_n k139_23 rfl rfl ?_
  refine wp_cs (st2 := []) k139_24 E3 (by decide) rfl rfl rfl (by decide) ?_
  refine wp_if_ne k139_27 (fun c9 => ?_) (fun c9 => ?_)
  · exact p41 _ _ _ _ _ hs3 (by omega) f13 l1
  · refine wp_aload_n k139_30 rfl rfl ?_
    refine wq_getR k139_31 hk5.1 rfl ?_
    refine wp_ldc_wR k139_34 ?_
    refine wp_cv (st2 := []) k139_37 E4 (by decide) rfl rfl rfl rfl (by decide) hs3.o (by decide) ?_
    refine wp_pop k139_40 rfl ?_
    exact p41 _ _ _ _ _ hs4 (by omega) (f13.u f4) (by omega)
end M75
