section M73
/-! ===== the class writes: the words ahead of a node ===== -/
def xsB (c d : Option mm_C) : Bool := match c, d with
  | some (.inr (.inr (0, _))), some (.inl (2, n, N)) => Nat.ble n 18 && mm_f8 N 0 n
  | _, _ => true
theorem xs_all : ∀ k : Fin 62, xsB (mm_ext k.val) (mm_ext (k.val + 1)) = true := by decide +kernel
theorem XS.w {k n N : Nat} (h : XS k n N) : n ≤ 18 ∧ mm_f8 N 0 n = true := by
  have this : xsB (mm_ext k) (mm_ext (k + 1)) = true := xs_all ⟨k, h.1⟩
  rw [h.2.1, h.2.2.1] at this
  have this : (Nat.ble n 18 && mm_f8 N 0 n) = true := this
  rw [Bool.and_eq_true] at this
  exact ⟨Nat.le_of_ble_eq_true this.1, this.2⟩
theorem e_pre {S : ww_S} {sh : List mm_C} {V : hV} {p0 p2 q cap c : Nat} (h0 : kForm sh p0) (h2 : kScene sh p2) (hB : SBI sh V q cap c) (hl : 260 ≤ sh.length) (hc : c ≤ 40000) {p3 : Int32} : EVQ S 7 14 [.ref p0, .ref 183, .ref p2, .int p3] (hH sh V) (wWR 26 sh V c) := by
  obtain ⟨y, E1⟩ := e_at0 (S := S) (V := V) h0.2.1 (by decide) (p1 := p3)
  obtain ⟨v9, g9, E2, k, n, N, hx, e1, e2⟩ := cw167 (S := S) (sh := sh) (V := V) (p0 := y)
  subst e1 e2
  obtain ⟨h18, h8⟩ := hx.w
  obtain ⟨sh1, V1, q1, cap1, E3, hs1, hcap, f1, l1⟩ := e_apS (S := S) hB hl (by omega) hx h8 h18
  obtain ⟨sh2, V2, q2, cap2, E4, hs2, f2, l2⟩ := e_apC (S := S) (x := 32) hs1 (by omega) (by omega) (by decide)
  have f12 := f1.u f2
  have k0 := h0.ex f12.2.2.1
  have k2 := h2.ex f12.2.2.1
  obtain ⟨z, E5⟩ := e_at0 (S := S) (V := V2) k0.2.1 (by decide) (p1 := p3)
  obtain ⟨v8, g8, E6, b, W2, e1, e2, g2⟩ := cw166 (S := S) (sh := sh2) (V := V2) (p0 := z)
  subst e1 e2
  have hs3 := hs2.fr g2
  have f13 := f12.q g2
  obtain ⟨u, E7⟩ := e_at0 (S := S) (V := W2) k0.2.2.1 (by decide) (p1 := p3)
  obtain ⟨v7, g7, E8, sh4, W4, e1, e2, ⟨q4, cap4, c4, hs4, n4⟩, f4, l4⟩ := e_nwr (S := S) k2.2.2.1 hs3 (by omega) (by omega) (p1 := u)
  subst e1 e2
  obtain ⟨sh5, V5, q5, cap5, E9, hs5, f5, l5⟩ := e_apC (S := S) (x := 32) hs4 (by omega) (by omega) (by decide)
  refine ev_of P14 rfl ?_
  refine wp_aload_n k14_0 rfl rfl ?_
  refine wp_aload_n k14_1 rfl rfl ?_
  refine wq_getR k14_2 h0.1 rfl ?_
  refine wp_iload_n k14_5 rfl rfl ?_
  refine wp_cs (st2 := [_]) k14_6 E1 (by decide) rfl rfl rfl (by decide) ?_
  refine wp_cs (st2 := [_]) k14_9 E2 (by decide) rfl rfl rfl (by decide) ?_
  refine wp_cv (st2 := []) k14_12 E3 (by decide) rfl rfl rfl rfl (by decide) hB.o (by decide) ?_
  refine wp_pop k14_15 rfl ?_
  refine wp_aload_n k14_16 rfl rfl ?_
  refine wp_bipush 32 k14_17 (by decide) ?_
  refine wp_cv (st2 := []) k14_19 E4 (by decide) rfl rfl rfl rfl (by decide) hs1.o (by decide) ?_
  refine wp_pop k14_22 rfl ?_
  refine wp_aload_n k14_23 rfl rfl ?_
  refine wq_getR k14_24 k0.1 rfl ?_
  refine wp_iload_n k14_27 rfl rfl ?_
  refine wp_cs (st2 := []) k14_28 E5 (by decide) rfl rfl rfl (by decide) ?_
  refine wp_cs (st2 := []) k14_31 E6 (by decide) rfl rfl rfl (by decide) ?_
  refine wp_if_eq k14_34 (fun c9 => ?_) (fun c9 => ?_)
  · exact wp_retN k14_60 rfl ⟨_, _, rfl, rfl, ⟨_, _, _, hs3, by omega⟩, f13, by omega⟩
  · refine wp_aload_n k14_37 rfl rfl ?_
    refine wq_getR k14_38 k2.1 rfl ?_
    refine wp_aload_n k14_41 rfl rfl ?_
    refine wp_aload_n k14_42 rfl rfl ?_
    refine wq_getR k14_43 k0.1 rfl ?_
    refine wp_iload_n k14_46 rfl rfl ?_
    refine wp_cs (st2 := [_, _]) k14_47 E7 (by decide) rfl rfl rfl (by decide) ?_
    refine wp_cvn (st2 := []) k14_50 E8 (by decide) rfl rfl rfl rfl k2.2.2.1.1.h k2.2.2.1.1.o (by decide) ?_
    refine wp_aload_n k14_53 rfl rfl ?_
    refine wp_bipush 32 k14_54 (by decide) ?_
    refine wp_cv (st2 := []) k14_56 E9 (by decide) rfl rfl rfl rfl (by decide) hs4.o (by decide) ?_
    refine wp_pop k14_59 rfl ?_
    exact wp_retN k14_60 rfl ⟨_, _, rfl, rfl, ⟨_, _, _, hs5, by omega⟩, (f13.u f4).u f5, by omega⟩
end M73
