section N_x
/-! ===== the class, exactly: a state begun ===== -/
def us (x n : Int32) : Int32 := (x.toUInt32 >>> (n.toUInt32 &&& Int32.toUInt32 31)).toInt32
def bc1 (x : Int32) : Int32 := x - (us x 1 &&& 1431655765)
def bc2 (x : Int32) : Int32 := (x &&& 858993459) + (us x 2 &&& 858993459)
def bc3 (x : Int32) : Int32 := (x + us x 4) &&& 252645135
def bc4 (x : Int32) : Int32 := x + us x 8
def bc5 (x : Int32) : Int32 := x + us x 16
/-- Integer.bitCount -/
def bcF (x : Int32) : Int32 := bc5 (bc4 (bc3 (bc2 (bc1 x)))) &&& 63
theorem s_bitCount {S : ww_S} {h : mm_H} {x : Int32} : EV S 1 360 [.int x] h (.inl (some (.int (bcF x)))) h := by
  refine ev_qe P360 rfl ?_
  refine wp_iload_n k360_0 rfl rfl ?_
  refine wp_iload_n k360_1 rfl rfl ?_
  refine wp_iconst 1 k360_2 (by decide) ?_
  refine wp_iushr k360_3 ?_
  refine wp_ldc_wI 1431655765 k360_4 (by decide) ?_
  refine wp_iand k360_7 ?_
  refine wp_isub k360_8 ?_
  refine wp_istore_n (L1 := [some (.int (bc1 x))]) k360_9 rfl rfl ?_
  refine wp_iload_n k360_10 rfl rfl ?_
  refine wp_ldc_wI 858993459 k360_11 (by decide) ?_
  refine wp_iand k360_14 ?_
  refine wp_iload_n k360_15 rfl rfl ?_
  refine wp_iconst 2 k360_16 (by decide) ?_
  refine wp_iushr k360_17 ?_
  refine wp_ldc_wI 858993459 k360_18 (by decide) ?_
  refine wp_iand k360_21 ?_
  refine wp_iadd k360_22 ?_
  refine wp_istore_n (L1 := [some (.int (bc2 (bc1 x)))]) k360_23 rfl rfl ?_
  refine wp_iload_n k360_24 rfl rfl ?_
  refine wp_iload_n k360_25 rfl rfl ?_
  refine wp_iconst 4 k360_26 (by decide) ?_
  refine wp_iushr k360_27 ?_
  refine wp_iadd k360_28 ?_
  refine wp_ldc_wI 252645135 k360_29 (by decide) ?_
  refine wp_iand k360_32 ?_
  refine wp_istore_n (L1 := [some (.int (bc3 (bc2 (bc1 x))))]) k360_33 rfl rfl ?_
  refine wp_iload_n k360_34 rfl rfl ?_
  refine wp_iload_n k360_35 rfl rfl ?_
  refine wp_bipush 8 k360_36 (by decide) ?_
  refine wp_iushr k360_38 ?_
  refine wp_iadd k360_39 ?_
  refine wp_istore_n (L1 := [some (.int (bc4 (bc3 (bc2 (bc1 x)))))]) k360_40 rfl rfl ?_
  refine wp_iload_n k360_41 rfl rfl ?_
  refine wp_iload_n k360_42 rfl rfl ?_
  refine wp_bipush 16 k360_43 (by decide) ?_
  refine wp_iushr k360_45 ?_
  refine wp_iadd k360_46 ?_
  refine wp_istore_n (L1 := [some (.int (bc5 (bc4 (bc3 (bc2 (bc1 x))))))]) k360_47 rfl rfl ?_
  refine wp_iload_n k360_48 rfl rfl ?_
  refine wp_bipush 63 k360_49 (by decide) ?_
  refine wp_iand k360_51 ?_
  exact wp_reti k360_52 rfl rfl rfl
theorem s_leftCount {S : ww_S} {sh : List mm_C} {V : hV} {k : Nat} {x : Int32} (hk : kKnow sh k) (hx : V.1 k 1 = x) : EV S 2 28 [.ref k] (hH sh V) (.inl (some (.int (bcF x)))) (hH sh V) := by
  refine ev_qe P28 rfl ?_
  refine wp_aload_n k28_0 rfl rfl ?_
  refine wp_getI k28_1 hk.1.h hk.1.o rfl _ hx ?_
  refine wp_cs (st2 := []) k28_4 s_bitCount (by decide) rfl rfl rfl (by decide) ?_
  exact wp_reti k28_7 rfl rfl rfl
def lgP (sh : List mm_C) (V : hV) (a : Nat) : mm_V → mm_H → Prop := fun v g => ∃ W : hV, v = .inl none ∧ g = hH sh W ∧ W.1 a 4 = 0 ∧ (∀ j, j < 7 → W.1 (a + 4) j = 0) ∧ ∀ b, b ≠ a → b ≠ a + 4 → W.1 b = V.1 b
theorem s_logClear {S : ww_S} {sh : List mm_C} {V : hV} {a : Nat} (hk : kLog sh a) : EVQ S 2 43 [.ref a] (hH sh V) (lgP sh V a) := by
  have key : ∀ (g i : Nat) (U : hV), g + i = 7 → U.1 a 4 = 0 → (∀ j, j < i → U.1 (a + 4) j = 0) → (∀ b, b ≠ a → b ≠ a + 4 → U.1 b = V.1 b) → WP S 1 mm_m43 7 [some (.ref a), some (.int (Int32.ofNat i))] [] (hH sh U) (lgP sh V a) := by
    intro g
    induction g with
    | zero =>
      intro i U hi h1 h2 h3
      refine wp_iload_n k43_7 rfl rfl ?_
      refine wp_bipush 7 k43_8 (by decide) ?_
      refine wp_if_icmp_ge_T k43_10 (i_nlt (k := i) (n := 7) (by omega) (by omega)) ?_
      exact wp_retN k43_28 rfl ⟨U, rfl, rfl, h1, fun j hj => h2 j (by omega), h3⟩
    | succ g ih =>
      intro i U hi h1 h2 h3
      have E := s_put (S := S) (V := U) hk.2.2.2.2.r (by decide) (i := Int32.ofNat i) (x := 0)
      rw [putV_up (by omega) (by decide)] at E
      refine wp_iload_n k43_7 rfl rfl ?_
      refine wp_bipush 7 k43_8 (by decide) ?_
      refine wp_if_icmp_ge_F k43_10 (i_lt (k := i) (n := 7) (by omega) (by decide)) ?_
      refine wp_aload_n k43_13 rfl rfl ?_
      refine wq_getR k43_14 hk.1 rfl ?_
      refine wp_iload_n k43_17 rfl rfl ?_
      refine wp_iconst 0 k43_18 (by decide) ?_
      refine wp_csn (st2 := []) k43_19 E (by decide) rfl rfl rfl (by decide) ?_
      refine wp_iinc 1 (L1 := [_, _]) k43_22 rfl (by decide) rfl ?_
      refine wp_goto k43_25 ?_
      rw [i_succ]
      refine ih (i + 1) _ (by omega) ((up_ne _ _ (Or.inl (by omega))).trans h1) (fun j hj => ?_) (fun b b1 b2 => (funext fun j => up_ne _ _ (Or.inl b2)).trans (h3 b b1 b2))
      by_cases c : j = i
      · rw [c]
        exact up_eq _ _ _ _
      · exact (up_ne _ _ (Or.inr c)).trans (h2 j (by omega))
  refine ev_of P43 rfl ?_
  refine wp_aload_n k43_0 rfl rfl ?_
  refine wp_iconst 0 k43_1 (by decide) ?_
  refine wp_putI k43_2 hk.1.h hk.1.o rfl rfl rfl ?_
  refine wp_iconst 0 k43_5 (by decide) ?_
  refine wp_istore_n (L1 := [_, _]) k43_6 rfl rfl ?_
  exact key 7 0 _ rfl (up_eq _ _ _ _) (fun j hj => absurd hj (Nat.not_lt_zero _)) (fun b b1 b2 => funext fun j => up_ne _ _ (Or.inl b1))
/-- a state that begins: knowledge, question, log -/
def STB (sh : List mm_C) (W : hV) (b cp : Nat) (sn : Nat → Int32) (fi : Int32) : Prop := W.1 (b + 1) 1 = fi ∧ W.1 (b + 1) 2 = Int32.ofNat cp ∧ ALK (W.1 (b + 2)) cp sn ∧ FOS sh W (b + 3) [(0, 0)] ∧ W.1 (b + 7) 4 = 0 ∧ ∀ j, j < 7 → W.1 (b + 11) j = 0
def stP (sh : List mm_C) (V : hV) (b cp : Nat) (sn : Nat → Int32) (fi : Int32) : mm_V → mm_H → Prop := fun v g => ∃ W : hV, v = .inl none ∧ g = hH sh W ∧ STB sh W b cp sn fi ∧ ∀ c, c ≤ b ∨ b + 11 < c → W.1 c = V.1 c
theorem s_stBegin {S : ww_S} {sh : List mm_C} {V : hV} {b q0 q : Nat} {Gf : Nat → Int32} {cf : Nat} {Gp : Nat → Int32} {cp : Nat} {sn : Nat → Int32} {lw : Nat} {fi re : Int32} (hs : kState sh b q0) (hq0 : kScene sh q) (hb : 82 ≤ b) (hbq : b + 11 < q) (hX : SCX V q Gf cf Gp cp sn lw fi re) : EVQ S 3 87 [.ref b, .ref q] (hH sh V) (stP (sh.set (b - 64) (stC b q)) V b cp sn fi) := by
  have hk := st_new hs hq0
  have hq := hq0.ex (ex_set (q2 := q) hs)
  refine ev_of P87 rfl ?_
  refine wp_aload_n k87_0 rfl rfl ?_
  refine wp_aload_n k87_1 rfl rfl ?_
  refine wp_putR k87_2 hs.1.h hs.1.o rfl rfl rfl ?_
  obtain ⟨s, hss⟩ : ∃ s, sh.set (b - 64) (stC b q) = s := ⟨_, rfl⟩
  rw [hss] at hk hq ⊢
  show WP S 2 mm_m87 5 [some (.ref b), some (.ref q)] [] (hH (sh.set (b - 64) (stC b q)) V) _
  rw [hss]
  obtain ⟨u, g, E1, W1, e1, e2, k1, k2, k3, k4⟩ := s_kbegin (S := S) hk.2.1 hq (by omega) hX
  subst e1 e2
  obtain ⟨E2, F2⟩ := s_clear (S := S) (V := W1) hk.2.2.1 (Or.inr (by omega))
  obtain ⟨W3, E3, F3, g3⟩ := s_fadd (S := S) F2 (by decide) (x := 0) (y := 0)
  obtain ⟨u, g, E4, W4, e1, e2, l1, l2, l3⟩ := s_logClear (S := S) (V := W3) hk.2.2.2.1
  subst e1 e2
  refine wp_aload_n k87_5 rfl rfl ?_
  refine wq_getR k87_6 hk.1 rfl ?_
  refine wp_aload_n k87_9 rfl rfl ?_
  refine wp_cvn (st2 := []) k87_10 E1 (by decide) rfl rfl rfl rfl hk.2.1.1.h hk.2.1.1.o (by decide) ?_
  refine wp_aload_n k87_13 rfl rfl ?_
  refine wq_getR k87_14 hk.1 rfl ?_
  refine wp_cvn (st2 := []) k87_17 E2 (by decide) rfl rfl rfl rfl hk.2.2.1.1.h hk.2.2.1.1.o (by decide) ?_
  refine wp_aload_n k87_20 rfl rfl ?_
  refine wq_getR k87_21 hk.1 rfl ?_
  refine wp_iconst 0 k87_24 (by decide) ?_
  refine wp_iconst 0 k87_25 (by decide) ?_
  refine wp_cvn (st2 := []) k87_26 E3 (by decide) rfl rfl rfl rfl hk.2.2.1.1.h hk.2.2.1.1.o (by decide) ?_
  refine wp_aload_n k87_29 rfl rfl ?_
  refine wq_getR k87_30 hk.1 rfl ?_
  refine wp_cvn (st2 := []) k87_33 E4 (by decide) rfl rfl rfl rfl hk.2.2.2.1.1.h hk.2.2.2.1.1.o (by decide) ?_
  have g4 : ∀ c, c ≠ b + 3 → c ≠ b + 4 → c ≠ b + 5 → c ≠ b + 7 → c ≠ b + 11 → W4.1 c = W1.1 c := fun c c1 c2 c3 c4 c5 => (l3 c c4 c5).trans ((g3 c c1 c2 c3).trans (funext fun j => up_ne _ _ (Or.inl c1)))
  exact wp_retN k87_36 rfl ⟨W4, rfl, rfl, ⟨(congrFun (g4 _ (by omega) (by omega) (by omega) (by omega) (by omega)) 1).trans k1, (congrFun (g4 _ (by omega) (by omega) (by omega) (by omega) (by omega)) 2).trans k2, by rw [g4 (b + 2) (by omega) (by omega) (by omega) (by omega) (by omega)]; exact k3, F3.fr fun c c1 c2 => l3 c (by omega) (by omega), l1, l2⟩, fun c hc => (g4 c (by omega) (by omega) (by omega) (by omega) (by omega)).trans (k4 c (by omega) (by omega))⟩
end N_x
