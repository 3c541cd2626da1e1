section M71
/-! ===== the class writes: a kind ===== -/
theorem SBI.fr {sh : List mm_C} {V W : hV} {q cap c : Nat} (f : FR sh V W) (h : SBI sh V q cap c) : SBI sh W q cap c := by
  have e : W.1 183 = V.1 183 := (f.2.1 183 (fun z => z.1.1 rfl)).1
  have eq : W.1 q = V.1 q := (f.2.1 q (fun z => z.2.2 _ _ h.s)).1
  exact ⟨h.1, h.2.1, h.2.2.1, h.o, h.s, by rw [e]; exact h.cd, by rw [e]; exact h.n, h.le, ⟨h.l, h.m⟩, fun j => by rw [eq]; exact h.b j⟩
theorem FX.u {sh sh1 sh2 : List mm_C} {V V1 V2 : hV} (h1 : FX 0 (V.1 65 4) sh V sh1 V1) (h2 : FX 0 (V1.1 65 4) sh1 V1 sh2 V2) : FX 0 (V.1 65 4) sh V sh2 V2 := by
  have h5 := h1.t h2
  rw [show V1.1 65 4 = V.1 65 4 from h1.1] at h5
  exact h5
theorem e_wki {S : ww_S} {sh : List mm_C} {V : hV} {q cap c w : Nat} (hW : WI sh) (hB : SBI sh V q cap c) (hl : 260 ≤ sh.length) (hc : c ≤ 40000) (hw : w < 32) {p1 : Int32} : EVQ S 6 155 [.ref 64, .int p1, .int (Int32.ofNat w)] (hH sh V) (wWR 96 sh V c) := by
  have key : ∀ (g i : Nat) (sh1 : List mm_C) (V1 : hV) (q1 cap1 c1 : Nat), g + i = 32 → SBI sh1 V1 q1 cap1 c1 → c1 ≤ c + 3 * i → FX 0 (V.1 65 4) sh V sh1 V1 → sh.length ≤ sh1.length → WP S 5 mm_m155 2 [some (.ref 64), some (.int p1), some (.int (Int32.ofNat w)), some (.int (Int32.ofNat i))] [] (hH sh1 V1) (wWR 96 sh V c) := by
    intro g
    induction g with
    | zero =>
      intro i sh1 V1 q1 cap1 c1 hi hs h2 h3 h4
      have hi : 32 = i := by omega
      subst hi
      refine wp_iload_n k155_2 rfl rfl ?_
      refine wp_bipush 32 k155_3 (by decide) ?_
      refine wp_if_icmp_ge_T k155_5 (by decide) ?_
      exact wp_retN k155_46 rfl ⟨_, _, rfl, rfl, ⟨_, _, _, hs, h2⟩, h3, h4⟩
    | succ g ih =>
      intro i sh1 V1 q1 cap1 c1 hi hs h2 h3 h4
      have hk := (h3.2.2.2.1 hW).1
      obtain ⟨v9, g9, E1, b, W1, e1, e2, f1⟩ := cw159 (S := S) (sh := sh1) (V := V1) (p0 := p1) (p1 := Int32.ofNat i)
      subst e1 e2
      have hs1 := hs.fr f1
      have h31 := h3.q f1
      refine wp_iload_n k155_2 rfl rfl ?_
      refine wp_bipush 32 k155_3 (by decide) ?_
      refine wp_if_icmp_ge_F k155_5 (i_lt (k := i) (n := 32) (by omega) (by decide)) ?_
      refine wp_iload_n k155_8 rfl rfl ?_
      refine wp_iload_n k155_9 rfl rfl ?_
      refine wp_cs (st2 := []) k155_10 E1 (by decide) rfl rfl rfl (by decide) ?_
      refine wp_if_eq k155_13 (fun c9 => ?_) (fun c9 => ?_)
      · refine wp_iinc 1 (L1 := [_, _, _, _]) k155_40 rfl (by decide) rfl ?_
        refine wp_goto k155_43 ?_
        rw [i_succ]
        exact ih (i + 1) _ _ _ _ _ (by omega) hs1 (by omega) h31 h4
      · have go : ∀ (sh2 : List mm_C) (V2 : hV) (q2 cap2 c2 : Nat), SBI sh2 V2 q2 cap2 c2 → c2 ≤ c1 + 1 → FX 0 (V.1 65 4) sh V sh2 V2 → sh.length ≤ sh2.length → WP S 5 mm_m155 31 [some (.ref 64), some (.int p1), some (.int (Int32.ofNat w)), some (.int (Int32.ofNat i))] [] (hH sh2 V2) (wWR 96 sh V c) := by
          intro sh2 V2 q2 cap2 c2 hs2 n2 h32 l2
          have hk2 := (h32.2.2.2.1 hW).1
          obtain ⟨sh3, V3, q3, cap3, E3, hs3, f3, l3⟩ := e_apN (S := S) (i := i) hs2 (by omega) (by omega) (by omega)
          have h2z : sz i ≤ 2 := by
            unfold sz
            split <;> omega
          refine wp_aload_n k155_31 rfl rfl ?_
          refine wp_getR k155_32 hk2.h hk2.o rfl ?_
          refine wp_iload_n k155_35 rfl rfl ?_
          refine wp_cv (st2 := []) k155_36 E3 (by decide) rfl rfl rfl rfl (by decide) hs2.o (by decide) ?_
          refine wp_pop k155_39 rfl ?_
          refine wp_iinc 1 (L1 := [_, _, _, _]) k155_40 rfl (by decide) rfl ?_
          refine wp_goto k155_43 ?_
          rw [i_succ]
          exact ih (i + 1) _ _ _ _ _ (by omega) hs3 (by omega) (h32.u f3) (by omega)
        refine wp_iload_n k155_16 rfl rfl ?_
        refine wp_iload_n k155_17 rfl rfl ?_
        refine wp_if_icmp_eq k155_18 (fun c8 => ?_) (fun c8 => ?_)
        · exact go _ _ _ _ _ hs1 (by omega) h31 h4
        · obtain ⟨sh2, V2, q2, cap2, E2, hs2, f2, l2⟩ := e_apC (S := S) (x := 32) hs1 (by omega) (by omega) (by decide)
          refine wp_aload_n k155_21 rfl rfl ?_
          refine wp_getR k155_22 hk.h hk.o rfl ?_
          refine wp_bipush 32 k155_25 (by decide) ?_
          refine wp_cv (st2 := []) k155_27 E2 (by decide) rfl rfl rfl rfl (by decide) hs1.o (by decide) ?_
          refine wp_pop k155_30 rfl ?_
          exact go _ _ _ _ _ hs2 (by omega) (h31.u f2) (by omega)
  refine ev_of P155 rfl ?_
  refine wp_iload_n k155_0 rfl rfl ?_
  refine wp_istore_n (L1 := [_, _, _, _]) k155_1 rfl rfl ?_
  exact key (32 - w) w sh V q cap c (by omega) hB (by omega) (fx_0 sh V) (Nat.le_refl _)
end M71
