section M66
/-! ===== the output: a letter more; its length ===== -/
theorem fx_v {sh : List mm_C} {V W : hV} {q cap c c' : Nat} (hB : SBI sh V q cap c) (h : ∀ b, b ≠ 183 → b ≠ q → W.1 b = V.1 b ∧ W.2 b = V.2 b) (hs : SBI sh W q cap c') : FX 0 (V.1 65 4) sh V sh W := by
  have h1 := hB.1
  have h2 := hB.2.1
  refine ⟨congrFun (h 65 (by decide) (by omega)).1 4, fun b h3 h4 => ⟨rfl, h b (by omega) (by omega)⟩, EX.r sh, fun z => z, fun hc p fs h64 hp => ?_, fun _ => ⟨_, _, _, hs⟩, RM.r sh⟩
  by_cases h5 : p = 183
  · subst h5
    rw [hB.o] at hp
    cases hp
  · by_cases h6 : p = q
    · subst h6
      rw [hB.s] at hp
      cases hp
    · rw [congrFun (h p h5 h6).1 1]
      exact hc p fs h64 hp
theorem e_can {S : ww_S} {h : mm_H} {x : Int32} (hx : ¬ (255 : Int32) < x) : EV S 1 381 [.int x] h (.inl (some (.int (bI true)))) h := by
  refine ev_qe P381 rfl ?_
  refine wp_iload_n k381_0 rfl rfl ?_
  refine wp_sipush 255 k381_1 (by decide) ?_
  refine wp_if_icmp_gt_F k381_4 hx ?_
  refine wp_iconst 1 k381_7 (by decide) ?_
  refine wp_goto k381_8 ?_
  exact wp_retz k381_12 rfl rfl rfl
theorem e_apc {S : ww_S} {sh : List mm_C} {V : hV} {q cap c : Nat} (hB : SBI sh V q cap c) (hl : 260 ≤ sh.length) (hc : c ≤ 48000) {x : Int32} (hx : ¬ (255 : Int32) < x) : ∃ sh' W q' cap', EV S 4 351 [.ref 183, .int x] (hH sh V) (.inl (some (.ref 183))) (hH sh' W) ∧ SBI sh' W q' cap' (c + 1) ∧ FX 0 (V.1 65 4) sh V sh' W ∧ sh.length ≤ sh'.length := by
  have hle := hB.le
  obtain ⟨sh1, W1, q1, cap1, E1, hs1, hn1, hF1, hl1, hc1⟩ := e_ensure (S := S) (n := c + 1) hB hl (by omega) (by omega)
  have hne := hs1.2.2.1
  have hs3 : SBI sh1 (up (up W1 183 3 (Int32.ofNat (c + 1))) q1 c x.toInt8.toInt32.toInt8.toInt32) q1 cap1 (c + 1) := by
    refine ⟨hs1.1, hs1.2.1, hne, hs1.o, hs1.s, ?_, ?_, hn1, ⟨hs1.l, hs1.m⟩, fun j => ?_⟩
    · exact (up_ne _ _ (Or.inl (fun z => hne z.symm))).trans ((up_ne _ _ (Or.inr (by decide))).trans hs1.cd)
    · exact (up_ne _ _ (Or.inl (fun z => hne z.symm))).trans (up_eq _ _ _ _)
    · by_cases hj : j = c
      · subst hj
        rw [up_eq]
        exact isB_n _
      · rw [up_ne _ _ (Or.inr hj), up_ne _ _ (Or.inl hne)]
        exact hs1.b j
  have hF3 := fx_v hs1 (fun b h1 h2 => ⟨(funext fun j => up_ne _ _ (Or.inl h2)).trans (funext fun j => up_ne _ _ (Or.inl h1)), rfl⟩) hs3
  refine ⟨sh1, _, q1, cap1, ev_qe P351 rfl ?_, hs3, ?_, hl1⟩
  · refine wp_aload_n k351_0 rfl rfl ?_
    refine wp_aload_n k351_1 rfl rfl ?_
    refine wp_getI k351_2 (by decide) hB.o rfl _ hB.n ?_
    refine wp_iconst 1 k351_5 (by decide) ?_
    refine wp_iadd k351_6 ?_
    refine wp_cast (i_add c 1) ?_
    refine wp_cvn (st2 := []) k351_7 E1 (by decide) rfl rfl rfl rfl (by decide) hB.o (by decide) ?_
    refine wp_aload_n k351_10 rfl rfl ?_
    refine wp_cv (st2 := []) k351_11 (e_sblat hs1) (by decide) rfl rfl rfl rfl (by decide) hs1.o (by decide) ?_
    refine wp_if_eq_F k351_14 (by decide) ?_
    refine wp_iload_n k351_17 rfl rfl ?_
    refine wp_cs (st2 := []) k351_18 (e_can hx) (by decide) rfl rfl rfl (by decide) ?_
    refine wp_if_eq_F k351_21 (by decide) ?_
    refine wp_aload_n k351_24 rfl rfl ?_
    refine wp_getR k351_25 (by decide) hs1.o rfl ?_
    refine wp_aload_n k351_28 rfl rfl ?_
    refine wp_dup k351_29 rfl ?_
    refine wp_getI k351_30 (by decide) hs1.o rfl _ hs1.n ?_
    refine wp_dup_x1 k351_33 rfl rfl ?_
    refine wp_iconst 1 k351_34 (by decide) ?_
    refine wp_iadd k351_35 ?_
    refine wp_cast (i_add c 1) ?_
    refine wp_putI k351_36 (by decide) hs1.o rfl rfl rfl ?_
    refine wp_iload_n k351_39 rfl rfl ?_
    refine wp_i2b k351_40 ?_
    refine wp_bastore k351_41 hs1.q64 hs1.s (i_inO (by omega) (by have := hs1.m; omega)) c (i_un (by omega)) ?_
    refine wp_goto k351_42 ?_
    refine wp_aload_n k351_75 rfl rfl ?_
    exact wp_reta k351_76 rfl rfl
  · have := hF1.t hF3
    rw [show W1.1 65 4 = V.1 65 4 from hF1.1] at this
    exact this
theorem e_apC {S : ww_S} {sh : List mm_C} {V : hV} {q cap c : Nat} (hB : SBI sh V q cap c) (hl : 260 ≤ sh.length) (hc : c ≤ 48000) {x : Int32} (hx : ¬ (255 : Int32) < x) : ∃ sh' W q' cap', EV S 5 373 [.ref 183, .int x] (hH sh V) (.inl (some (.ref 183))) (hH sh' W) ∧ SBI sh' W q' cap' (c + 1) ∧ FX 0 (V.1 65 4) sh V sh' W ∧ sh.length ≤ sh'.length := by
  obtain ⟨sh1, W1, q1, cap1, E1, hs1, hF1, hl1⟩ := e_apc (S := S) hB hl hc hx
  refine ⟨sh1, W1, q1, cap1, ev_qe P373 rfl ?_, hs1, hF1, hl1⟩
  refine wp_aload_n k373_0 rfl rfl ?_
  refine wp_iload_n k373_1 rfl rfl ?_
  refine wp_c4 (st2 := []) k373_2 E1 rfl rfl rfl rfl (by decide) hB.o (by decide) ?_
  refine wp_pop k373_5 rfl ?_
  refine wp_aload_n k373_6 rfl rfl ?_
  exact wp_reta k373_7 rfl rfl
theorem e_sblen {S : ww_S} {sh : List mm_C} {V : hV} {q cap c : Nat} (hB : SBI sh V q cap c) : EV S 1 343 [.ref 183] (hH sh V) (.inl (some (.int (Int32.ofNat c)))) (hH sh V) := by
  refine ev_qe P343 rfl ?_
  refine wp_aload_n k343_0 rfl rfl ?_
  refine wp_getI k343_1 (by decide) hB.o rfl _ hB.n ?_
  exact wp_reti k343_4 rfl rfl rfl
theorem e_sbLen {S : ww_S} {sh : List mm_C} {V : hV} {q cap c : Nat} (hB : SBI sh V q cap c) : EV S 2 378 [.ref 183] (hH sh V) (.inl (some (.int (Int32.ofNat c)))) (hH sh V) := by
  refine ev_qe P378 rfl ?_
  refine wp_aload_n k378_0 rfl rfl ?_
  refine wp_c4 (st2 := []) k378_1 (e_sblen hB) rfl rfl rfl rfl (by decide) hB.o (by decide) ?_
  exact wp_reti k378_4 rfl rfl rfl
end M66
