section M76
/-! ===== the class writes: a question ===== -/
theorem e_fwr {S : ww_S} {sh : List mm_C} {V : hV} {p0 p2 q cap c : Nat} (h0 : kForm sh p0) (h2 : kScene sh p2) (ht : kA sh 182 240) (hB : SBI sh V q cap c) (hl : 260 ≤ sh.length) (hc : c ≤ 30000) : EVQ S 8 13 [.ref p0, .ref 183, .ref p2, .ref 182] (hH sh V) (wWR 6240 sh V c) := by
  have key : ∀ (g i : Nat) (sh1 : List mm_C) (V1 : hV) (q1 cap1 c1 : Nat) (a : Int32) (x : Option Value), g + i = 240 → SBI sh1 V1 q1 cap1 c1 → c1 ≤ c + 26 * i → FX 0 (V.1 65 4) sh V sh1 V1 → sh.length ≤ sh1.length → WP S 7 mm_m13 21 [some (.ref p0), some (.ref 183), some (.ref p2), some (.ref 182), some (.int a), some (.int (Int32.ofNat i)), x] [] (hH sh1 V1) (wWR 6240 sh V c) := by
    intro g
    induction g with
    | zero =>
      intro i sh1 V1 q1 cap1 c1 a x hi hs h3 h4 h5
      have hi : 240 = i := by omega
      subst hi
      refine wp_iload k13_21 rfl rfl ?_
      refine wp_sipush 240 k13_23 (by decide) ?_
      refine wp_if_icmp_ge_T k13_26 (by decide) ?_
      exact wp_retN k13_239 rfl ⟨_, _, rfl, rfl, ⟨_, _, _, hs, by omega⟩, h4, h5⟩
    | succ g ih =>
      intro i sh1 V1 q1 cap1 c1 a x hi hs h3 h4 h5
      have tl : ∀ (sh2 : List mm_C) (V2 : hV) (q2 cap2 c2 : Nat) (a2 z : Int32), SBI sh2 V2 q2 cap2 c2 → c2 ≤ c1 + 26 → FX 0 (V.1 65 4) sh V sh2 V2 → sh.length ≤ sh2.length → WP S 7 mm_m13 233 [some (.ref p0), some (.ref 183), some (.ref p2), some (.ref 182), some (.int a2), some (.int (Int32.ofNat i)), some (.int z)] [] (hH sh2 V2) (wWR 6240 sh V c) := by
        intro sh2 V2 q2 cap2 c2 a2 z hs2 n2 f2 l2
        refine wp_iinc 1 (L1 := [_, _, _, _, _, _, _]) k13_233 rfl (by decide) rfl ?_
        refine wp_goto k13_236 ?_
        rw [i_succ]
        exact ih (i + 1) _ _ _ _ _ _ _ (by omega) hs2 (by omega) f2 l2
      have k0 := h0.ex h4.2.2.1
      have k2 := h2.ex h4.2.2.1
      have kt := ht.ex h4.2.2.1
      refine wp_iload k13_21 rfl rfl ?_
      refine wp_sipush 240 k13_23 (by decide) ?_
      refine wp_if_icmp_ge_F k13_26 (i_lt (k := i) (n := 240) (by omega) (by decide)) ?_
      refine wp_iload k13_29 rfl rfl ?_
      refine wp_if_le k13_31 (fun c9 => ?_) (fun c9 => ?_)
      · exact wp_retN k13_239 rfl ⟨_, _, rfl, rfl, ⟨_, _, _, hs, by omega⟩, h4, h5⟩
      obtain ⟨z, E1⟩ := e_at0 (S := S) (V := V1) kt (by decide) (p1 := a + -1)
      refine wp_iinc (-1) (L1 := [_, _, _, _, _, _, _]) k13_34 rfl (by decide) rfl ?_
      refine wp_aload_n k13_37 rfl rfl ?_
      refine wp_iload k13_38 rfl rfl ?_
      refine wp_cs (st2 := []) k13_40 E1 (by decide) rfl rfl rfl (by decide) ?_
      refine wp_istore (L1 := [_, _, _, _, _, _, _]) k13_43 rfl rfl ?_
      refine wp_iload k13_45 rfl rfl ?_
      refine wp_if_ge k13_47 (fun c8 => ?_) (fun c8 => ?_)
      · obtain ⟨y, E2⟩ := e_at0 (S := S) (V := V1) k0.2.1 (by decide) (p1 := z)
        refine wp_aload_n k13_83 rfl rfl ?_
        refine wq_getR k13_84 k0.1 rfl ?_
        refine wp_iload k13_87 rfl rfl ?_
        refine wp_cs (st2 := []) k13_89 E2 (by decide) rfl rfl rfl (by decide) ?_
        refine wp_if_ne k13_92 (fun c7 => ?_) (fun c7 => ?_)
        · obtain ⟨v9, g9, E3, b, W3, e1, e2, f3⟩ := cw165 (S := S) (sh := sh1) (V := V1) (p0 := y)
          subst e1 e2
          have hs3 := hs.fr f3
          have f3 := h4.q f3
          refine wp_aload_n k13_115 rfl rfl ?_
          refine wq_getR k13_116 k0.1 rfl ?_
          refine wp_iload k13_119 rfl rfl ?_
          refine wp_cs (st2 := []) k13_121 E2 (by decide) rfl rfl rfl (by decide) ?_
          refine wp_cs (st2 := []) k13_124 E3 (by decide) rfl rfl rfl (by decide) ?_
          refine wp_if_eq k13_127 (fun c6 => ?_) (fun c6 => ?_)
          · obtain ⟨v8, g8, E4, sh4, W4, e1, e2, ⟨q4, cap4, c4, hs4, n4⟩, f4, l4⟩ := e_pre (S := S) k0 k2 hs3 (by omega) (by omega) (p3 := z)
            subst e1 e2
            have f4 := f3.u f4
            have kt4 := ht.ex f4.2.2.1
            refine wp_aload_n k13_212 rfl rfl ?_
            refine wp_aload_n k13_213 rfl rfl ?_
            refine wp_aload_n k13_214 rfl rfl ?_
            refine wp_iload k13_215 rfl rfl ?_
            refine wp_cvn (st2 := []) k13_217 E4 (by decide) rfl rfl rfl rfl k0.1.h k0.1.o (by decide) ?_
            refine wp_aload_n k13_220 rfl rfl ?_
            refine wp_iload k13_221 rfl rfl ?_
            refine wp_iload k13_223 rfl rfl ?_
            refine wp_iconst 1 k13_225 (by decide) ?_
            refine wp_isub k13_226 ?_
            refine wcsN (st2 := []) k13_227 (cw157 kt4 (by decide)) (by decide) rfl rfl rfl (by decide) (fun W5 f5 => ?_)
            refine wp_iinc 1 (L1 := [_, _, _, _, _, _, _]) k13_230 rfl (by decide) rfl ?_
            exact tl _ _ _ _ _ _ _ (hs4.fr f5) (by omega) (f4.q f5) (by omega)
          · obtain ⟨sh4, V4, q4, cap4, E4, hs4, f4, l4⟩ := e_apC (S := S) (x := 40) hs3 (by omega) (by omega) (by decide)
            have f4 := f3.u f4
            have kt4 := ht.ex f4.2.2.1
            have k4 := h0.ex f4.2.2.1
            refine wp_aload_n k13_130 rfl rfl ?_
            refine wp_bipush 40 k13_131 (by decide) ?_
            refine wp_cv (st2 := []) k13_133 E4 (by decide) rfl rfl rfl rfl (by decide) hs3.o (by decide) ?_
            refine wp_pop k13_136 rfl ?_
            refine wp_aload_n k13_137 rfl rfl ?_
            refine wp_iload k13_138 rfl rfl ?_
            refine wp_bipush (-3) k13_140 (by decide) ?_
            refine wcsN (st2 := []) k13_142 (cw157 kt4 (by decide)) (by decide) rfl rfl rfl (by decide) (fun W5 f5 => ?_)
            have hs5 := hs4.fr f5
            have f5 := f4.q f5
            refine wp_aload_n k13_145 rfl rfl ?_
            refine wp_iload k13_146 rfl rfl ?_
            refine wp_iconst 1 k13_148 (by decide) ?_
            refine wp_iadd k13_149 ?_
            refine wp_iload k13_150 rfl rfl ?_
            refine wp_iconst 1 k13_152 (by decide) ?_
            refine wp_isub k13_153 ?_
            refine wcsN (st2 := []) k13_154 (cw157 kt4 (by decide)) (by decide) rfl rfl rfl (by decide) (fun W6 f6 => ?_)
            have hs6 := hs5.fr f6
            have f6 := f5.q f6
            have p182 : ∀ w : Int32, WP S 7 mm_m13 182 [some (.ref p0), some (.ref 183), some (.ref p2), some (.ref 182), some (.int (a + -1)), some (.int (Int32.ofNat i)), some (.int z)] [.int w, .int (a + -1 + 2), .ref 182] (hH sh4 W6) (wWR 6240 sh V c) := by
              intro w
              refine wcsN (st2 := []) k13_182 (cw157 kt4 (by decide)) (by decide) rfl rfl rfl (by decide) (fun W7 f7 => ?_)
              have hs7 := hs6.fr f7
              have f7 := f6.q f7
              obtain ⟨y7, E7⟩ := e_at0 (S := S) (V := W7) k4.2.2.2 (by decide) (p1 := z - 1)
              refine wp_aload_n k13_185 rfl rfl ?_
              refine wp_iload k13_186 rfl rfl ?_
              refine wp_iconst 3 k13_188 (by decide) ?_
              refine wp_iadd k13_189 ?_
              refine wp_aload_n k13_190 rfl rfl ?_
              refine wq_getR k13_191 k4.1 rfl ?_
              refine wp_iload k13_194 rfl rfl ?_
              refine wp_iconst 1 k13_196 (by decide) ?_
              refine wp_isub k13_197 ?_
              refine wp_cs (st2 := [_, _]) k13_198 E7 (by decide) rfl rfl rfl (by decide) ?_
              refine wp_iconst 1 k13_201 (by decide) ?_
              refine wp_isub k13_202 ?_
              refine wcsN (st2 := []) k13_203 (cw157 kt4 (by decide)) (by decide) rfl rfl rfl (by decide) (fun W8 f8 => ?_)
              refine wp_iinc 4 (L1 := [_, _, _, _, _, _, _]) k13_206 rfl (by decide) rfl ?_
              refine wp_goto k13_209 ?_
              exact tl _ _ _ _ _ _ _ (hs7.fr f8) (by omega) (f7.q f8) (by omega)
            obtain ⟨y6, E6⟩ := e_at0 (S := S) (V := W6) k4.2.1 (by decide) (p1 := z)
            refine wp_aload_n k13_157 rfl rfl ?_
            refine wp_iload k13_158 rfl rfl ?_
            refine wp_iconst 2 k13_160 (by decide) ?_
            refine wp_iadd k13_161 ?_
            refine wp_aload_n k13_162 rfl rfl ?_
            refine wq_getR k13_163 k4.1 rfl ?_
            refine wp_iload k13_166 rfl rfl ?_
            refine wp_cs (st2 := [_, _]) k13_168 E6 (by decide) rfl rfl rfl (by decide) ?_
            refine wp_bipush 6 k13_171 (by decide) ?_
            refine wp_if_icmp_ne k13_173 (fun c5 => ?_) (fun c5 => ?_)
            · refine wp_bipush (-2) k13_180 (by decide) ?_
              exact p182 _
            · refine wp_iconst (-1) k13_176 (by decide) ?_
              refine wp_goto k13_177 ?_
              exact p182 _
        · obtain ⟨u, E3⟩ := e_at0 (S := S) (V := V1) k0.2.2.1 (by decide) (p1 := z)
          obtain ⟨v7, g7, E8, sh4, W4, e1, e2, ⟨q4, cap4, c4, hs4, n4⟩, f4, l4⟩ := e_nwr (S := S) k2.2.1 hs (by omega) (by omega) (p1 := u)
          subst e1 e2
          refine wp_aload_n k13_95 rfl rfl ?_
          refine wq_getR k13_96 k2.1 rfl ?_
          refine wp_aload_n k13_99 rfl rfl ?_
          refine wp_aload_n k13_100 rfl rfl ?_
          refine wq_getR k13_101 k0.1 rfl ?_
          refine wp_iload k13_104 rfl rfl ?_
          refine wp_cs (st2 := [_, _]) k13_106 E3 (by decide) rfl rfl rfl (by decide) ?_
          refine wp_cvn (st2 := []) k13_109 E8 (by decide) rfl rfl rfl rfl k2.2.1.1.h k2.2.1.1.o (by decide) ?_
          refine wp_goto k13_112 ?_
          exact tl _ _ _ _ _ _ _ hs4 (by omega) (h4.u f4) (by omega)
      · have p76 : ∀ (k n N : Nat), XS k n N → WP S 7 mm_m13 76 [some (.ref p0), some (.ref 183), some (.ref p2), some (.ref 182), some (.int (a + -1)), some (.int (Int32.ofNat i)), some (.int z)] [.ref k, .ref 183] (hH sh1 V1) (wWR 6240 sh V c) := by
          intro k n N hx
          obtain ⟨h18, h8⟩ := hx.w
          obtain ⟨sh4, V4, q4, cap4, E4, hs4, hcap4, f4, l4⟩ := e_apS (S := S) hs (by omega) (by omega) hx h8 h18
          refine wp_cv (st2 := []) k13_76 E4 (by decide) rfl rfl rfl rfl (by decide) hs.o (by decide) ?_
          refine wp_pop k13_79 rfl ?_
          refine wp_goto k13_80 ?_
          exact tl _ _ _ _ _ _ _ hs4 (by omega) (h4.u f4) (by omega)
        refine wp_aload_n k13_50 rfl rfl ?_
        refine wp_iload k13_51 rfl rfl ?_
        refine wp_iconst (-1) k13_53 (by decide) ?_
        refine wp_if_icmp_ne k13_54 (fun c7 => ?_) (fun c7 => ?_)
        · refine wp_iload k13_62 rfl rfl ?_
          refine wp_bipush (-2) k13_64 (by decide) ?_
          refine wp_if_icmp_ne k13_66 (fun c6 => ?_) (fun c6 => ?_)
          · refine wp_ldcR k13_74 ?_
            exact p76 _ _ _ XS34
          · refine wp_ldcR k13_69 ?_
            refine wp_goto k13_71 ?_
            exact p76 _ _ _ XS32
        · refine wp_ldcR k13_57 ?_
          refine wp_goto k13_59 ?_
          exact p76 _ _ _ XS30
  refine ev_of P13 rfl ?_
  refine wp_aload_n k13_0 rfl rfl ?_
  refine wcvN (st2 := []) k13_1 (cw15 h0) (by decide) rfl rfl rfl rfl h0.1.h h0.1.o (by decide) (fun W1 f1 => ?_)
  have hs1 := hB.fr f1
  have f1 := (fx_0 sh V).q f1
  refine wp_aload_n k13_4 rfl rfl ?_
  refine wp_iconst 0 k13_5 (by decide) ?_
  refine wp_aload_n k13_6 rfl rfl ?_
  refine wq_getI k13_7 h0.1 rfl ?_
  refine wp_iconst 1 k13_10 (by decide) ?_
  refine wp_isub k13_11 ?_
  refine wcsN (st2 := []) k13_12 (cw157 ht (by decide)) (by decide) rfl rfl rfl (by decide) (fun W2 f2 => ?_)
  have hs2 := hs1.fr f2
  have f2 := f1.q f2
  refine wp_iconst 1 k13_15 (by decide) ?_
  refine wp_istore (L1 := [_, _, _, _, _, _, _]) k13_16 rfl rfl ?_
  refine wp_iconst 0 k13_18 (by decide) ?_
  refine wp_istore (L1 := [_, _, _, _, _, _, _]) k13_19 rfl rfl ?_
  exact key 240 0 sh _ _ _ _ _ _ rfl hs2 (by omega) f2 (Nat.le_refl _)
theorem cw141 {S : ww_S} {sh : List mm_C} {V : hV} (hW : WI sh) (hl : 260 ≤ sh.length) (hb : SBok sh V) : EVQ S 9 141 [.ref 64] (hH sh V) (xI 0 (V.1 65 4) sh V) := by
  obtain ⟨q0, hk⟩ := hW.who
  obtain ⟨q, cap, c, hB⟩ := hb
  obtain ⟨sh1, V1, q1, cap1, E1, hs1, f1, l1⟩ := e_sbZ (S := S) hB hl
  obtain ⟨q5, hk5⟩ := (f1.2.2.2.1 hW).who
  obtain ⟨v8, g8, E4, sh4, W4, e1, e2, ⟨q4, cap4, c4, hs4, n4⟩, f4, l4⟩ := e_fwr (S := S) (hk5.2.2.2.2.2.2.1) (hk5.2.2.2.2.2.2.2.2) hk5.2.2.2.1 hs1 (by omega) (by omega)
  subst e1 e2
  have f4 := f1.u f4
  obtain ⟨q6, hk6⟩ := (f4.2.2.2.1 hW).who
  refine ev_of P141 rfl ?_
  refine wp_aload_n k141_0 rfl rfl ?_
  refine wq_getR k141_1 hk.1 rfl ?_
  refine wp_iconst 0 k141_4 (by decide) ?_
  refine wp_cvn (st2 := []) k141_5 E1 (by decide) rfl rfl rfl rfl (by decide) hB.o (by decide) ?_
  refine wp_aload_n k141_8 rfl rfl ?_
  refine wq_getR k141_9 hk5.1 rfl ?_
  refine wq_getR k141_12 hk5.2.2.2.2.1 rfl ?_
  refine wp_aload_n k141_15 rfl rfl ?_
  refine wq_getR k141_16 hk5.1 rfl ?_
  refine wp_aload_n k141_19 rfl rfl ?_
  refine wq_getR k141_20 hk5.1 rfl ?_
  refine wq_getR k141_23 hk5.2.2.2.2.1 rfl ?_
  refine wp_aload_n k141_26 rfl rfl ?_
  refine wq_getR k141_27 hk5.1 rfl ?_
  refine wp_cvn (st2 := []) k141_30 E4 (by decide) rfl rfl rfl rfl hk5.2.2.2.2.2.2.1.1.h hk5.2.2.2.2.2.2.1.1.o (by decide) ?_
  refine wp_aload_n k141_33 rfl rfl ?_
  refine wq_getR k141_34 hk6.1 rfl ?_
  refine wp_cv (st2 := []) k141_37 (e_sbLen hs4) (by decide) rfl rfl rfl rfl (by decide) hs4.o (by decide) ?_
  exact wp_retI k141_40 rfl ⟨_, _, _, rfl, rfl, f4⟩
end M76
