section M70
/-! ===== the class writes: a name ===== -/
theorem and31 (w : Int32) : ∃ k : Fin 32, w &&& 31 = Int32.ofNat k.val := by
  refine ⟨⟨(w.toBitVec &&& 31#32).toNat, ?_⟩, ?_⟩
  · rw [BitVec.toNat_and]
    exact Nat.lt_of_le_of_lt Nat.and_le_right (by decide)
  · apply Int32.toBitVec_inj.mp
    show w.toBitVec &&& 31#32 = BitVec.ofNat 32 (w.toBitVec &&& 31#32).toNat
    rw [BitVec.ofNat_toNat, BitVec.setWidth_eq]
def i2c (x : Int32) : Int32 := (x.toUInt32 % 65536).toInt32
theorem nn8 : ∀ k : Fin 32, ¬ (255 : Int32) < i2c (Int32.ofNat k.val + 96) := by decide
theorem e_at0 {S : ww_S} {sh : List mm_C} {V : hV} {p0 n0 : Nat} (h0 : kA sh p0 n0) (b0 : n0 ≤ 100000) {p1 : Int32} : ∃ y : Int32, EV S 1 156 [.ref p0, .int p1] (hH sh V) (.inl (some (.int y))) (hH sh V) := by
  have E : EVQ S 1 156 [.ref p0, .int p1] (hH sh V) (fun v g => ∃ y : Int32, v = .inl (some (.int y)) ∧ g = hH sh V) := by
    refine ev_of P156 rfl ?_
    refine wp_iload_n k156_0 rfl rfl ?_
    refine wp_if_lt k156_1 (fun c1 => ?_) (fun c1 => ?_)
    · refine wp_iconst 0 k156_16 (by decide) ?_
      exact wp_retI k156_17 rfl ⟨_, rfl, rfl⟩
    · refine wp_iload_n k156_4 rfl rfl ?_
      refine wp_aload_n k156_5 rfl rfl ?_
      refine wp_alen k156_6 rfl h0.h h0.o ?_
      refine wp_if_icmp_ge k156_7 (fun c7 => ?_) (fun c7 => ?_)
      · refine wp_iconst 0 k156_16 (by decide) ?_
        exact wp_retI k156_17 rfl ⟨_, rfl, rfl⟩
      · refine wp_aload_n k156_10 rfl rfl ?_
        refine wp_iload_n k156_11 rfl rfl ?_
        refine wp_iaload k156_12 h0.h h0.o (in_of c1 c7 b0) _ rfl _ rfl ?_
        refine wp_goto k156_13 ?_
        exact wp_retI k156_17 rfl ⟨_, rfl, rfl⟩
  obtain ⟨v, g, e, y, h1, h2⟩ := E
  subst h1 h2
  exact ⟨y, e⟩
theorem e_lo {S : ww_S} {sh : List mm_C} {V : hV} {p0 : Nat} (h0 : kNames sh p0) {p1 : Int32} {i : Nat} (hi : i < 6) : ∃ y : Int32, EV S 2 52 [.ref p0, .int p1, .int (Int32.ofNat i)] (hH sh V) (.inl (some (.int y))) (hH sh V) ∧ (y = -1 ∨ ¬ (255 : Int32) < i2c y) := by
  obtain ⟨z, E1⟩ := e_at0 (S := S) (V := V) h0.2 (by decide) (p1 := p1)
  have E : EVQ S 2 52 [.ref p0, .int p1, .int (Int32.ofNat i)] (hH sh V) (fun v g => ∃ y : Int32, v = .inl (some (.int y)) ∧ g = hH sh V ∧ (y = -1 ∨ ¬ (255 : Int32) < i2c y)) := by
    refine ev_of P52 rfl ?_
    refine wp_iload_n k52_0 rfl rfl ?_
    refine wp_if_lt_F k52_1 (i_nlt (k := i) (n := 0) (by omega) (by omega)) ?_
    refine wp_iload_n k52_4 rfl rfl ?_
    refine wp_bipush 6 k52_5 (by decide) ?_
    refine wp_if_icmp_lt_T k52_7 (i_lt (k := i) (n := 6) hi (by decide)) ?_
    refine wp_aload_n k52_12 rfl rfl ?_
    refine wp_getR k52_13 h0.1.h h0.1.o rfl ?_
    refine wp_iload_n k52_16 rfl rfl ?_
    refine wp_cs (st2 := []) k52_17 E1 (by decide) rfl rfl rfl (by decide) ?_
    refine wp_iconst 5 k52_20 (by decide) ?_
    refine wp_iload_n k52_21 rfl rfl ?_
    refine wp_imul k52_22 ?_
    refine wp_iushr k52_23 ?_
    refine wp_bipush 31 k52_24 (by decide) ?_
    refine wp_iand k52_26 ?_
    obtain ⟨k, hk⟩ := and31 (z.toUInt32 >>> ((5 * Int32.ofNat i).toUInt32 &&& Int32.toUInt32 31)).toInt32
    refine wp_cast hk ?_
    refine wp_istore_n (L1 := [_, _, _, _]) k52_27 rfl rfl ?_
    refine wp_iload_n k52_28 rfl rfl ?_
    refine wp_if_ne k52_29 (fun c1 => ?_) (fun c1 => ?_)
    · refine wp_iload_n k52_36 rfl rfl ?_
      refine wp_bipush 96 k52_37 (by decide) ?_
      refine wp_iadd k52_39 ?_
      exact wp_retI k52_40 rfl ⟨_, rfl, rfl, Or.inr (nn8 k)⟩
    · refine wp_iconst (-1) k52_32 (by decide) ?_
      refine wp_goto k52_33 ?_
      exact wp_retI k52_40 rfl ⟨_, rfl, rfl, Or.inl rfl⟩
  obtain ⟨v, g, e, y, h1, h2, h3⟩ := E
  subst h1 h2
  exact ⟨y, e, h3⟩
/-- what a writing method does to the output: c letters more at most -/
def WR (m : Nat) (sh : List mm_C) (V : hV) (c : Nat) (sh' : List mm_C) (W : hV) : Prop := (∃ q cap c', SBI sh' W q cap c' ∧ c' ≤ c + m) ∧ FX 0 (V.1 65 4) sh V sh' W ∧ sh.length ≤ sh'.length
theorem WR.t {m n : Nat} {sh sh1 sh2 : List mm_C} {V V1 V2 : hV} {c c1 : Nat} (h1 : FX 0 (V.1 65 4) sh V sh1 V1) (hl : sh.length ≤ sh1.length) (hc : c1 ≤ c + m) (h2 : WR n sh1 V1 c1 sh2 V2) : WR (m + n) sh V c sh2 V2 := by
  obtain ⟨⟨q, cap, c', h3, h4⟩, h5, h6⟩ := h2
  have h5 := h1.t h5
  rw [show V1.1 65 4 = V.1 65 4 from h1.1] at h5
  exact ⟨⟨q, cap, c', h3, by omega⟩, h5, Nat.le_trans hl h6⟩
def wWR (m : Nat) (sh : List mm_C) (V : hV) (c : Nat) : mm_V → mm_H → Prop := fun v g => ∃ sh' W, v = .inl none ∧ g = hH sh' W ∧ WR m sh V c sh' W
theorem e_nwr {S : ww_S} {sh : List mm_C} {V : hV} {p0 q cap c : Nat} (h0 : kNames sh p0) (hB : SBI sh V q cap c) (hl : 260 ≤ sh.length) (hc : c ≤ 47000) {p1 : Int32} : EVQ S 6 53 [.ref p0, .ref 183, .int p1] (hH sh V) (wWR 6 sh V c) := by
  have key : ∀ (g i : Nat) (sh1 : List mm_C) (V1 : hV) (q1 cap1 c1 : Nat), g + i = 6 → SBI sh1 V1 q1 cap1 c1 → c1 ≤ c + i → FX 0 (V.1 65 4) sh V sh1 V1 → sh.length ≤ sh1.length → WP S 5 mm_m53 2 [some (.ref p0), some (.ref 183), some (.int p1), some (.int (Int32.ofNat i))] [] (hH sh1 V1) (wWR 6 sh V c) := by
    intro g
    induction g with
    | zero =>
      intro i sh1 V1 q1 cap1 c1 hi hs h2 h3 h4
      have hi : 6 = i := by omega
      subst hi
      refine wp_iload_n k53_2 rfl rfl ?_
      refine wp_bipush 6 k53_3 (by decide) ?_
      refine wp_if_icmp_ge_T k53_5 (by decide) ?_
      exact wp_retN k53_36 rfl ⟨_, _, rfl, rfl, ⟨_, _, _, hs, h2⟩, h3, h4⟩
    | succ g ih =>
      intro i sh1 V1 q1 cap1 c1 hi hs h2 h3 h4
      have hk := h0.ex h3.2.2.1
      obtain ⟨y, E1, hy⟩ := e_lo (S := S) (V := V1) hk (p1 := p1) (i := i) (by omega)
      refine wp_iload_n k53_2 rfl rfl ?_
      refine wp_bipush 6 k53_3 (by decide) ?_
      refine wp_if_icmp_ge_F k53_5 (i_lt (k := i) (n := 6) (by omega) (by decide)) ?_
      refine wp_aload_n k53_8 rfl rfl ?_
      refine wp_iload_n k53_9 rfl rfl ?_
      refine wp_iload_n k53_10 rfl rfl ?_
      refine wp_cv (st2 := []) k53_11 E1 (by decide) rfl rfl rfl rfl hk.1.h hk.1.o (by decide) ?_
      refine wp_iconst (-1) k53_14 (by decide) ?_
      refine wp_if_icmp_eq k53_15 (fun c9 => ?_) (fun c9 => ?_)
      · exact wp_retN k53_36 rfl ⟨_, _, rfl, rfl, ⟨_, _, _, hs, by omega⟩, h3, h4⟩
      · have hy : ¬ (255 : Int32) < i2c y := hy.resolve_left c9
        obtain ⟨sh2, V2, q2, cap2, E2, hs2, f2, l2⟩ := e_apC (S := S) hs (by omega) (by omega) hy
        have f3 := h3.t f2
        refine wp_aload_n k53_18 rfl rfl ?_
        refine wp_aload_n k53_19 rfl rfl ?_
        refine wp_iload_n k53_20 rfl rfl ?_
        refine wp_iload_n k53_21 rfl rfl ?_
        refine wp_cv (st2 := [_]) k53_22 E1 (by decide) rfl rfl rfl rfl hk.1.h hk.1.o (by decide) ?_
        refine wp_i2c k53_25 ?_
        refine wp_cv (st2 := []) k53_26 E2 (by decide) rfl rfl rfl rfl (by decide) hs.o (by decide) ?_
        refine wp_pop k53_29 rfl ?_
        refine wp_iinc 1 (L1 := [_, _, _, _]) k53_30 rfl (by decide) rfl ?_
        refine wp_goto k53_33 ?_
        rw [i_succ]
        refine ih (i + 1) _ _ _ _ _ (by omega) hs2 (by omega) ?_ (by omega)
        rw [show V1.1 65 4 = V.1 65 4 from h3.1] at f3
        exact f3
  refine ev_of P53 rfl ?_
  refine wp_iconst 0 k53_0 (by decide) ?_
  refine wp_istore_n (L1 := [_, _, _, _]) k53_1 rfl rfl ?_
  exact key 6 0 sh V q cap c rfl hB (by omega) (fx_0 sh V) (Nat.le_refl _)
end M70
