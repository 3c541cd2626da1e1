section M67
/-! ===== the output: a text more; none ===== -/
section
variable {S : ww_S} {D : Nat} {M : mm_M} {pc p9 nx : Nat} {L : mm_L} {st : List Value} {h : mm_H} {Q : mm_V → mm_H → Prop}
theorem wp_cvxn {u kd j n ci a D' : Nat} {r : List Nat} {as st2 : List Value} {fs : List Value} {h1 : mm_H} (hk : mm_lk M.1 pc = some (p9, .invokevirtual u, nx, kd :: j :: n :: ci :: r)) (c : EV S D' j as h (.inl none) h1) (hkd : kd = 0 ∨ kd = 5 ∨ kd = 3) (hb : (Nat.ble n st.length && mm_rst st n) = true) (ha : (st.take n).reverse = as) (hr : st.drop n = st2) (hv : st[n - 1]? = some (.ref a)) (h64 : a < 64) (hs : mm_ext a = some (.inr (.inr (ci, fs)))) (hD : D' ≤ D) (w : WP S D M nx L st2 h1 Q) : WP S D M pc L st h Q := wp_calln hk (wx_callX hkd hb hv (wx_extr h64 hs) (by unfold mm_obj; dsimp only; rw [Nat.beq_eq.mpr rfl]; rfl) ha hr) c hD w
theorem wp_ifnonnull_x {d : Int} {t : Nat} (hk : mm_lk M.1 pc = some (p9, .ifnonnull d, nx, [t])) {a : Nat} (ha : a < 63) (w : WP S D M t L st h Q) : WP S D M pc L (.ref a :: st) h Q := wp_go hk (by simp only [mm_stp]; rw [show Nat.beq a 63 = false from Bool.eq_false_iff.mpr fun e => by have := Nat.beq_eq.mp e; omega]; rfl) w
end
theorem e_infl {S : ww_S} {sh : List mm_C} {V : hV} {q cap c k n N : Nat} (hB : SBI sh V q cap c) (hx : XS k n N) : EV S 2 355 [.ref 183, .ref k] (hH sh V) (.inl none) (hH sh V) := by
  refine ev_qe P355 rfl ?_
  refine wp_getstatic k355_0 rfl ?_
  refine wp_if_eq_F k355_3 (by decide) ?_
  refine wp_aload_n k355_6 rfl rfl ?_
  refine wp_getI k355_7 (by decide) hB.o rfl _ hB.cd ?_
  refine wp_aload_n k355_10 rfl rfl ?_
  refine wp_cvx (st2 := [_]) k355_11 (e_coder hx) (by decide) rfl rfl rfl rfl hx.lt hx.2.1 (by decide) ?_
  refine wp_if_icmp_eq_T k355_14 rfl ?_
  exact wp_retn k355_21 rfl rfl
theorem e_getB {S : ww_S} {sh : List mm_C} {V : hV} {t nt b k n N : Nat} (ht64 : 64 ≤ t) (ht : sh[t - 64]? = some (.inl (2, nt, 0))) (hx : XS k n N) (h8 : mm_f8 N 0 n = true) (hb : b + n ≤ nt) (hnt : nt ≤ 100000) : EV S 2 364 [.ref k, .ref t, .int (Int32.ofNat b), .int 0] (hH sh V) (.inl none) (hH sh (acx V N 0 t b n)) := by
  have h1 := hx.1
  refine ev_qe P364 rfl ?_
  refine wp_aload_n k364_0 rfl rfl ?_
  refine wp_cvx (st2 := []) k364_1 (e_coder hx) (by decide) rfl rfl rfl rfl hx.lt hx.2.1 (by decide) ?_
  refine wp_iload_n k364_4 rfl rfl ?_
  refine wp_if_icmp_ne_F k364_5 rfl ?_
  refine wp_aload_n k364_8 rfl rfl ?_
  refine wp_getx k364_9 hx.lt hx.2.1 rfl ?_
  refine wp_iconst 0 k364_12 (by decide) ?_
  refine wp_aload_n k364_13 rfl rfl ?_
  refine wp_iload_n k364_14 rfl rfl ?_
  refine wp_iload_n k364_15 rfl rfl ?_
  refine wp_ishl k364_16 ?_
  refine wp_cast (sh0 _) ?_
  refine wp_aload_n k364_17 rfl rfl ?_
  refine wp_getx k364_18 hx.lt hx.2.1 rfl ?_
  refine wp_alenx k364_21 rfl hx.b0 hx.b1 hx.2.2.1 ?_
  refine wp_acopyX (a := 0) (b := b) (n := n) k364_22 rfl (by omega) ht64 hx.2.2.1 ht (by omega) hb (by have := hx.2.2.2; omega) hnt h8 ?_
  refine wp_goto k364_25 ?_
  exact wp_retn k364_43 rfl rfl
theorem e_putS {S : ww_S} {sh : List mm_C} {V : hV} {q cap c k n N : Nat} (hB : SBI sh V q cap c) (hx : XS k n N) (h8 : mm_f8 N 0 n = true) (hc : c + n ≤ cap) : EV S 3 356 [.ref 183, .int (Int32.ofNat c), .ref k] (hH sh V) (.inl none) (hH sh (acx V N 0 q c n)) := by
  refine ev_qe P356 rfl ?_
  refine wp_aload_n k356_0 rfl rfl ?_
  refine wp_aload_n k356_1 rfl rfl ?_
  refine wp_cvn (st2 := []) k356_2 (e_infl hB hx) (by decide) rfl rfl rfl rfl (by decide) hB.o (by decide) ?_
  refine wp_aload_n k356_5 rfl rfl ?_
  refine wp_aload_n k356_6 rfl rfl ?_
  refine wp_getR k356_7 (by decide) hB.o rfl ?_
  refine wp_iload_n k356_10 rfl rfl ?_
  refine wp_aload_n k356_11 rfl rfl ?_
  refine wp_getI k356_12 (by decide) hB.o rfl _ hB.cd ?_
  refine wp_cvxn (st2 := []) k356_15 (e_getB hB.q64 hB.s hx h8 hc hB.m) (by decide) rfl rfl rfl rfl hx.lt hx.2.1 (by decide) ?_
  exact wp_retn k356_18 rfl rfl
theorem f8_ag {N n : Nat} (h : mm_f8 N 0 n = true) : ∀ i, i < n → isB (Int32.ofNat (mm_ag 32 N i)) := by
  have key : ∀ (k p : Nat), mm_f8 N p k = true → ∀ i, i < k → isB (Int32.ofNat (mm_ag 32 N (p + i))) := by
    intro k
    induction k with
    | zero =>
      intro p _ i hi
      exact absurd hi (Nat.not_lt_zero _)
    | succ k ih =>
      intro p h i hi
      have h : (mm_fit .byte (.int (Int32.ofNat (mm_ag 32 N p))) && mm_f8 N (p + 1) k) = true := h
      rw [Bool.and_eq_true] at h
      cases i with
      | zero => exact (mm_eq_iff _ _).mp h.1
      | succ i =>
        have := ih (p + 1) h.2 i (by omega)
        rw [show p + 1 + i = p + (i + 1) by omega] at this
        exact this
  intro i hi
  have := key n 0 h i hi
  rw [Nat.zero_add] at this
  exact this
theorem e_aps {S : ww_S} {sh : List mm_C} {V : hV} {q cap c k n N : Nat} (hB : SBI sh V q cap c) (hl : 260 ≤ sh.length) (hc : c ≤ 48000) (hx : XS k n N) (h8 : mm_f8 N 0 n = true) (hn : n ≤ 18) : ∃ sh' W q' cap', EV S 4 349 [.ref 183, .ref k] (hH sh V) (.inl (some (.ref 183))) (hH sh' W) ∧ SBI sh' W q' cap' (c + n) ∧ cap ≤ cap' ∧ FX 0 (V.1 65 4) sh V sh' W ∧ sh.length ≤ sh'.length := by
  have hle := hB.le
  have hcap := hB.l
  have hk := hx.1
  obtain ⟨sh1, W1, q1, cap1, E1, hs1, hn1, hF1, hl1, hc1⟩ := e_ensure (S := S) (n := c + n) hB hl (by omega) (by omega)
  have hne := hs1.2.2.1
  have hv : ∀ b, b ≠ q1 → (acx W1 N 0 q1 c n).1 b = W1.1 b := fun b hb => by
    funext j
    unfold acx
    dsimp only
    rw [if_neg hb]
  have hb2 : ∀ j, isB ((acx W1 N 0 q1 c n).1 q1 j) := fun j => by
    unfold acx
    dsimp only
    rw [if_pos rfl]
    split
    · exact f8_ag h8 _ (by omega)
    · exact hs1.b j
  have hs3 : SBI sh1 (up (acx W1 N 0 q1 c n) 183 3 (Int32.ofNat (c + n))) q1 cap1 (c + n) := by
    refine ⟨hs1.1, hs1.2.1, hne, hs1.o, hs1.s, ?_, up_eq _ _ _ _, hn1, ⟨hs1.l, hs1.m⟩, fun j => ?_⟩
    · exact (up_ne _ _ (Or.inr (by decide))).trans ((congrFun (hv 183 (fun z => hne z.symm)) 1).trans hs1.cd)
    · rw [up_ne _ _ (Or.inl hne)]
      exact hb2 j
  have hF3 := fx_v hs1 (W := up (acx W1 N 0 q1 c n) 183 3 (Int32.ofNat (c + n))) (fun b h1 h2 => ⟨(funext fun j => up_ne _ _ (Or.inl h1)).trans (hv b h2), rfl⟩) hs3
  refine ⟨sh1, _, q1, cap1, ev_qe P349 rfl ?_, hs3, hc1, ?_, hl1⟩
  · refine wp_aload_n k349_0 rfl rfl ?_
    refine wp_ifnonnull_x k349_1 (by omega) ?_
    refine wp_aload_n k349_9 rfl rfl ?_
    refine wp_cvx (st2 := []) k349_10 (e_slen hx) (by decide) rfl rfl rfl rfl hx.lt hx.2.1 (by decide) ?_
    refine wp_istore_n (L1 := [_, _, _]) k349_13 rfl rfl ?_
    refine wp_aload_n k349_14 rfl rfl ?_
    refine wp_aload_n k349_15 rfl rfl ?_
    refine wp_getI k349_16 (by decide) hB.o rfl _ hB.n ?_
    refine wp_iload_n k349_19 rfl rfl ?_
    refine wp_iadd k349_20 ?_
    refine wp_cast (i_add c n) ?_
    refine wp_cvn (st2 := []) k349_21 E1 (by decide) rfl rfl rfl rfl (by decide) hB.o (by decide) ?_
    refine wp_aload_n k349_24 rfl rfl ?_
    refine wp_aload_n k349_25 rfl rfl ?_
    refine wp_getI k349_26 (by decide) hs1.o rfl _ hs1.n ?_
    refine wp_aload_n k349_29 rfl rfl ?_
    refine wp_cvn (st2 := []) k349_30 (e_putS hs1 hx h8 hn1) (by decide) rfl rfl rfl rfl (by decide) hs1.o (by decide) ?_
    refine wp_aload_n k349_33 rfl rfl ?_
    refine wp_dup k349_34 rfl ?_
    refine wp_getI k349_35 (by decide) hs1.o rfl _ ((congrFun (hv 183 (fun z => hne z.symm)) 3).trans hs1.n) ?_
    refine wp_iload_n k349_38 rfl rfl ?_
    refine wp_iadd k349_39 ?_
    refine wp_cast (i_add c n) ?_
    refine wp_putI k349_40 (by decide) hs1.o rfl rfl rfl ?_
    refine wp_aload_n k349_43 rfl rfl ?_
    exact wp_reta k349_44 rfl rfl
  · have := hF1.t hF3
    rw [show W1.1 65 4 = V.1 65 4 from hF1.1] at this
    exact this
theorem e_apS {S : ww_S} {sh : List mm_C} {V : hV} {q cap c k n N : Nat} (hB : SBI sh V q cap c) (hl : 260 ≤ sh.length) (hc : c ≤ 48000) (hx : XS k n N) (h8 : mm_f8 N 0 n = true) (hn : n ≤ 18) : ∃ sh' W q' cap', EV S 5 372 [.ref 183, .ref k] (hH sh V) (.inl (some (.ref 183))) (hH sh' W) ∧ SBI sh' W q' cap' (c + n) ∧ cap ≤ cap' ∧ FX 0 (V.1 65 4) sh V sh' W ∧ sh.length ≤ sh'.length := by
  obtain ⟨sh1, W1, q1, cap1, E1, hr⟩ := e_aps (S := S) hB hl hc hx h8 hn
  refine ⟨sh1, W1, q1, cap1, ev_qe P372 rfl ?_, hr⟩
  refine wp_aload_n k372_0 rfl rfl ?_
  refine wp_aload_n k372_1 rfl rfl ?_
  refine wp_c4 (st2 := []) k372_2 E1 rfl rfl rfl rfl (by decide) hB.o (by decide) ?_
  refine wp_pop k372_5 rfl ?_
  refine wp_aload_n k372_6 rfl rfl ?_
  exact wp_reta k372_7 rfl rfl
end M67
