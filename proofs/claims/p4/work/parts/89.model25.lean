section M25
/-! ===== the reference: the five acts ===== -/
/-- an array that holds formulas -/
def AOK (sh : List mm_C) (ar zn : Nat) : Prop := 64 ≤ ar ∧ sh[ar - 64]? = some (.inl (0, zn, 0)) ∧ ar ≠ 318 ∧ zn ≤ 100000
theorem AOK.t {sh : List mm_C} (hM : MS sh) : AOK sh 320 5061 := ⟨by decide, hM.a320, by decide, by decide⟩
theorem AOK.s {sh : List mm_C} (hM : MS sh) : AOK sh 313 564 := ⟨by decide, hM.a313, by decide, by decide⟩
def acV (V : hV) (x : Int32) (k : Nat) (w : Int32) : hV := noW (grV (ruV V x) k 1) (Int32.ofNat k) w (V.1 313 2 &&& (x ^^^ -1))
def asX (V : hV) (ar n b m : Nat) : Int32 := (askF V n ar b m).1 318 (m - 1)
def anF (V : hV) (ar n b m : Nat) : Int32 × hV := if hasB (asX V ar n b m) (V.1 313 4) = true then (Int32.ofNat (cnt ((acV (askF V n ar b m) (asX V ar n b m) 0 0).1 313 2)), acV (askF V n ar b m) (asX V ar n b m) 0 0) else (-1, askF V n ar b m)
def saF (V : hV) (ar p n b m : Nat) : Int32 × hV := if hasB (asX V ar n b m) (V.1 313 4) = true then (if hasB (kb (askF V n ar b m) p (asX V ar n b m)) (V.1 313 4) = true then (Int32.ofNat (cnt ((acV (askF V n ar b m) (kb (askF V n ar b m) p (asX V ar n b m)) 1 (1 <<< (Int32.ofNat p &&& 31))).1 313 2)), acV (askF V n ar b m) (kb (askF V n ar b m) p (asX V ar n b m)) 1 (1 <<< (Int32.ofNat p &&& 31))) else (-2, askF V n ar b m)) else (-1, askF V n ar b m)
def shV (V : hV) (p : Nat) (fact : Int32) : hV := noW (grV (paV V p (wof fact &&& V.1 313 2)) 3 1) 3 (1 <<< (Int32.ofNat p &&& 31)) 0
theorem e_announceNow {S : ww_S} {sh : List mm_C} {V : hV} (hM : MS sh) {n : Nat} (hn : V.1 313 1 = Int32.ofNat n) (h5 : n ≤ 5) {ar zn : Nat} (hAr : AOK sh ar zn) {b m : Nat} (hb : b + 241 ≤ zn) (hF : FOK V n ar b m) : EV S 9 240 [.ref 312, .ref ar, .int (Int32.ofNat b)] (hH sh V) (.inl (some (.int (anF V ar n b m).1))) (hH sh (anF V ar n b m).2) := by
  have EA := e_asked (S := S) (V := V) hM hn h5 (f := ar) hAr.1 hAr.2.1 hAr.2.2.1 hb hAr.2.2.2 hF
  have h4 : (askF V n ar b m).1 313 4 = V.1 313 4 := askF_ne V n ar b (by decide) 4 m
  obtain ⟨A, hA⟩ : ∃ A, askF V n ar b m = A := ⟨_, rfl⟩
  obtain ⟨x, hx⟩ : ∃ x, A.1 318 (m - 1) = x := ⟨_, rfl⟩
  have hx2 : asX V ar n b m = x := by
    unfold asX
    rw [hA, hx]
  rw [hA] at EA h4
  rw [hx] at EA
  unfold anF
  rw [hx2, hA]
  refine ev_qe P240 rfl ?_
  by_cases h0 : hasB x (V.1 313 4) = true
  · rw [if_pos h0]
    refine wp_aload_n k240_0 rfl rfl ?_
    refine wp_aload_n k240_1 rfl rfl ?_
    refine wp_iload_n k240_2 rfl rfl ?_
    refine wp_cv (st2 := []) k240_3 EA (by decide) rfl rfl rfl rfl (by decide) hM.o (by decide) ?_
    refine wp_istore_n (L1 := [_, _, _, _, _]) k240_6 rfl rfl ?_
    refine wp_iload_n k240_7 rfl rfl ?_
    refine wp_aload_n k240_8 rfl rfl ?_
    refine wp_getR k240_9 (by decide) hM.o rfl ?_
    refine wp_iconst 4 k240_12 (by decide) ?_
    refine wp_iaload k240_13 (by decide) (hM.a313) (by decide) 4 (by decide) (V.1 313 4) h4 ?_
    refine wp_cs (st2 := []) k240_14 (e_has) (by decide) rfl rfl rfl (by decide) ?_
    refine wp_if_ne_T k240_17 (bI_n0.mpr h0) ?_
    refine wp_aload_n k240_22 rfl rfl ?_
    refine wp_iload_n k240_23 rfl rfl ?_
    refine wp_cv (st2 := []) k240_24 (e_rules hM) (by decide) rfl rfl rfl rfl (by decide) hM.o (by decide) ?_
    refine wp_istore (L1 := [_, _, _, _, _]) k240_27 rfl rfl ?_
    refine wp_aload_n k240_29 rfl rfl ?_
    refine wp_iconst 0 k240_30 (by decide) ?_
    refine wp_iconst 1 k240_31 (by decide) ?_
    refine wp_cvn (st2 := []) k240_32 (e_grows hM (k := 0) (by decide)) (by decide) rfl rfl rfl rfl (by decide) hM.o (by decide) ?_
    refine wp_aload_n k240_35 rfl rfl ?_
    refine wp_iconst 0 k240_36 (by decide) ?_
    refine wp_iconst 0 k240_37 (by decide) ?_
    refine wp_iload k240_38 rfl rfl ?_
    refine wp_cvn (st2 := []) k240_40 (e_notes hM) (by decide) rfl rfl rfl rfl (by decide) hM.o (by decide) ?_
    refine wp_aload_n k240_43 rfl rfl ?_
    refine wp_getR k240_44 (by decide) hM.o rfl ?_
    refine wp_iconst 2 k240_47 (by decide) ?_
    refine wp_iaload k240_48 (by decide) (hM.a313) (by decide) 2 (by decide) _ rfl ?_
    refine wp_cs (st2 := []) k240_49 (e_bits) (by decide) rfl rfl rfl (by decide) ?_
    exact wp_reti k240_52 rfl rfl rfl
  · rw [if_neg h0]
    refine wp_aload_n k240_0 rfl rfl ?_
    refine wp_aload_n k240_1 rfl rfl ?_
    refine wp_iload_n k240_2 rfl rfl ?_
    refine wp_cv (st2 := []) k240_3 EA (by decide) rfl rfl rfl rfl (by decide) hM.o (by decide) ?_
    refine wp_istore_n (L1 := [_, _, _, _, _]) k240_6 rfl rfl ?_
    refine wp_iload_n k240_7 rfl rfl ?_
    refine wp_aload_n k240_8 rfl rfl ?_
    refine wp_getR k240_9 (by decide) hM.o rfl ?_
    refine wp_iconst 4 k240_12 (by decide) ?_
    refine wp_iaload k240_13 (by decide) (hM.a313) (by decide) 4 (by decide) (V.1 313 4) h4 ?_
    refine wp_cs (st2 := []) k240_14 (e_has) (by decide) rfl rfl rfl (by decide) ?_
    refine wp_if_ne_F k240_17 (bI_0.mpr (Bool.eq_false_iff.mpr h0)) ?_
    refine wp_iconst (-1) k240_20 (by decide) ?_
    exact wp_reti k240_21 rfl (by dsimp only) (by dsimp only)
theorem e_sayNow {S : ww_S} {sh : List mm_C} {V : hV} (hM : MS sh) {n : Nat} (hn : V.1 313 1 = Int32.ofNat n) (h5 : n ≤ 5) {ar zn : Nat} (hAr : AOK sh ar zn) {b m : Nat} (hb : b + 241 ≤ zn) (hF : FOK V n ar b m) {p : Nat} (hp : p < 5) : EV S 9 241 [.ref 312, .int (Int32.ofNat p), .ref ar, .int (Int32.ofNat b)] (hH sh V) (.inl (some (.int (saF V ar p n b m).1))) (hH sh (saF V ar p n b m).2) := by
  have EA := e_asked (S := S) (V := V) hM hn h5 (f := ar) hAr.1 hAr.2.1 hAr.2.2.1 hb hAr.2.2.2 hF
  have h4 : (askF V n ar b m).1 313 4 = V.1 313 4 := askF_ne V n ar b (by decide) 4 m
  obtain ⟨A, hA⟩ : ∃ A, askF V n ar b m = A := ⟨_, rfl⟩
  obtain ⟨x, hx⟩ : ∃ x, A.1 318 (m - 1) = x := ⟨_, rfl⟩
  have hx2 : asX V ar n b m = x := by
    unfold asX
    rw [hA, hx]
  rw [hA] at EA h4
  rw [hx] at EA
  unfold saF
  rw [hx2, hA]
  refine ev_qe P241 rfl ?_
  by_cases h0 : hasB x (V.1 313 4) = true
  · rw [if_pos h0]
    by_cases h1 : hasB (kb A p x) (V.1 313 4) = true
    · rw [if_pos h1]
      refine wp_aload_n k241_0 rfl rfl ?_
      refine wp_aload_n k241_1 rfl rfl ?_
      refine wp_iload_n k241_2 rfl rfl ?_
      refine wp_cv (st2 := []) k241_3 EA (by decide) rfl rfl rfl rfl (by decide) hM.o (by decide) ?_
      refine wp_istore (L1 := [_, _, _, _, _, _, _]) k241_6 rfl rfl ?_
      refine wp_iload k241_8 rfl rfl ?_
      refine wp_aload_n k241_10 rfl rfl ?_
      refine wp_getR k241_11 (by decide) hM.o rfl ?_
      refine wp_iconst 4 k241_14 (by decide) ?_
      refine wp_iaload k241_15 (by decide) (hM.a313) (by decide) 4 (by decide) (V.1 313 4) h4 ?_
      refine wp_cs (st2 := []) k241_16 (e_has) (by decide) rfl rfl rfl (by decide) ?_
      refine wp_if_ne_T k241_19 (bI_n0.mpr h0) ?_
      refine wp_aload_n k241_24 rfl rfl ?_
      refine wp_iload_n k241_25 rfl rfl ?_
      refine wp_iload k241_26 rfl rfl ?_
      refine wp_cv (st2 := []) k241_28 (e_knownBy hM hp) (by decide) rfl rfl rfl rfl (by decide) hM.o (by decide) ?_
      refine wp_istore (L1 := [_, _, _, _, _, _, _]) k241_31 rfl rfl ?_
      refine wp_iload k241_33 rfl rfl ?_
      refine wp_aload_n k241_35 rfl rfl ?_
      refine wp_getR k241_36 (by decide) hM.o rfl ?_
      refine wp_iconst 4 k241_39 (by decide) ?_
      refine wp_iaload k241_40 (by decide) (hM.a313) (by decide) 4 (by decide) (V.1 313 4) h4 ?_
      refine wp_cs (st2 := []) k241_41 (e_has) (by decide) rfl rfl rfl (by decide) ?_
      refine wp_if_ne_T k241_44 (bI_n0.mpr h1) ?_
      refine wp_aload_n k241_50 rfl rfl ?_
      refine wp_iload k241_51 rfl rfl ?_
      refine wp_cv (st2 := []) k241_53 (e_rules hM) (by decide) rfl rfl rfl rfl (by decide) hM.o (by decide) ?_
      refine wp_istore (L1 := [_, _, _, _, _, _, _]) k241_56 rfl rfl ?_
      refine wp_aload_n k241_58 rfl rfl ?_
      refine wp_iconst 1 k241_59 (by decide) ?_
      refine wp_iconst 1 k241_60 (by decide) ?_
      refine wp_cvn (st2 := []) k241_61 (e_grows hM (k := 1) (by decide)) (by decide) rfl rfl rfl rfl (by decide) hM.o (by decide) ?_
      refine wp_aload_n k241_64 rfl rfl ?_
      refine wp_iconst 1 k241_65 (by decide) ?_
      refine wp_iconst 1 k241_66 (by decide) ?_
      refine wp_iload_n k241_67 rfl rfl ?_
      refine wp_ishl k241_68 ?_
      refine wp_iload k241_69 rfl rfl ?_
      refine wp_cvn (st2 := []) k241_71 (e_notes hM) (by decide) rfl rfl rfl rfl (by decide) hM.o (by decide) ?_
      refine wp_aload_n k241_74 rfl rfl ?_
      refine wp_getR k241_75 (by decide) hM.o rfl ?_
      refine wp_iconst 2 k241_78 (by decide) ?_
      refine wp_iaload k241_79 (by decide) (hM.a313) (by decide) 2 (by decide) _ rfl ?_
      refine wp_cs (st2 := []) k241_80 (e_bits) (by decide) rfl rfl rfl (by decide) ?_
      exact wp_reti k241_83 rfl rfl rfl
    · rw [if_neg h1]
      refine wp_aload_n k241_0 rfl rfl ?_
      refine wp_aload_n k241_1 rfl rfl ?_
      refine wp_iload_n k241_2 rfl rfl ?_
      refine wp_cv (st2 := []) k241_3 EA (by decide) rfl rfl rfl rfl (by decide) hM.o (by decide) ?_
      refine wp_istore (L1 := [_, _, _, _, _, _, _]) k241_6 rfl rfl ?_
      refine wp_iload k241_8 rfl rfl ?_
      refine wp_aload_n k241_10 rfl rfl ?_
      refine wp_getR k241_11 (by decide) hM.o rfl ?_
      refine wp_iconst 4 k241_14 (by decide) ?_
      refine wp_iaload k241_15 (by decide) (hM.a313) (by decide) 4 (by decide) (V.1 313 4) h4 ?_
      refine wp_cs (st2 := []) k241_16 (e_has) (by decide) rfl rfl rfl (by decide) ?_
      refine wp_if_ne_T k241_19 (bI_n0.mpr h0) ?_
      refine wp_aload_n k241_24 rfl rfl ?_
      refine wp_iload_n k241_25 rfl rfl ?_
      refine wp_iload k241_26 rfl rfl ?_
      refine wp_cv (st2 := []) k241_28 (e_knownBy hM hp) (by decide) rfl rfl rfl rfl (by decide) hM.o (by decide) ?_
      refine wp_istore (L1 := [_, _, _, _, _, _, _]) k241_31 rfl rfl ?_
      refine wp_iload k241_33 rfl rfl ?_
      refine wp_aload_n k241_35 rfl rfl ?_
      refine wp_getR k241_36 (by decide) hM.o rfl ?_
      refine wp_iconst 4 k241_39 (by decide) ?_
      refine wp_iaload k241_40 (by decide) (hM.a313) (by decide) 4 (by decide) (V.1 313 4) h4 ?_
      refine wp_cs (st2 := []) k241_41 (e_has) (by decide) rfl rfl rfl (by decide) ?_
      refine wp_if_ne_F k241_44 (bI_0.mpr (Bool.eq_false_iff.mpr h1)) ?_
      refine wp_bipush (-2) k241_47 (by decide) ?_
      exact wp_reti k241_49 rfl (by dsimp only) (by dsimp only)
  · rw [if_neg h0]
    refine wp_aload_n k241_0 rfl rfl ?_
    refine wp_aload_n k241_1 rfl rfl ?_
    refine wp_iload_n k241_2 rfl rfl ?_
    refine wp_cv (st2 := []) k241_3 EA (by decide) rfl rfl rfl rfl (by decide) hM.o (by decide) ?_
    refine wp_istore (L1 := [_, _, _, _, _, _, _]) k241_6 rfl rfl ?_
    refine wp_iload k241_8 rfl rfl ?_
    refine wp_aload_n k241_10 rfl rfl ?_
    refine wp_getR k241_11 (by decide) hM.o rfl ?_
    refine wp_iconst 4 k241_14 (by decide) ?_
    refine wp_iaload k241_15 (by decide) (hM.a313) (by decide) 4 (by decide) (V.1 313 4) h4 ?_
    refine wp_cs (st2 := []) k241_16 (e_has) (by decide) rfl rfl rfl (by decide) ?_
    refine wp_if_ne_F k241_19 (bI_0.mpr (Bool.eq_false_iff.mpr h0)) ?_
    refine wp_iconst (-1) k241_22 (by decide) ?_
    exact wp_reti k241_23 rfl (by dsimp only) (by dsimp only)
theorem e_showNow {S : ww_S} {sh : List mm_C} {V : hV} (hM : MS sh) {p : Nat} (hp : p < 5) {fact : Int32} : EV S 8 245 [.ref 312, .int (Int32.ofNat p), .int fact] (hH sh V) (.inl (some (.int (pbF V p (wof fact &&& V.1 313 2) 32)))) (hH sh (shV V p fact)) := by
  refine ev_qe P245 rfl ?_
  refine wp_aload_n k245_0 rfl rfl ?_
  refine wp_iload_n k245_1 rfl rfl ?_
  refine wp_iload_n k245_2 rfl rfl ?_
  refine wp_cs (st2 := [_, _]) k245_3 (e_worldsOf) (by decide) rfl rfl rfl (by decide) ?_
  refine wp_aload_n k245_6 rfl rfl ?_
  refine wp_getR k245_7 (by decide) hM.o rfl ?_
  refine wp_iconst 2 k245_10 (by decide) ?_
  refine wp_iaload k245_11 (by decide) (hM.a313) (by decide) 2 (by decide) _ rfl ?_
  refine wp_iand k245_12 ?_
  refine wp_cv (st2 := []) k245_13 (e_parts hM hp) (by decide) rfl rfl rfl rfl (by decide) hM.o (by decide) ?_
  refine wp_istore_n (L1 := [_, _, _, _]) k245_16 rfl rfl ?_
  refine wp_aload_n k245_17 rfl rfl ?_
  refine wp_iconst 3 k245_18 (by decide) ?_
  refine wp_iconst 1 k245_19 (by decide) ?_
  refine wp_cvn (st2 := []) k245_20 (e_grows hM (k := 3) (by decide)) (by decide) rfl rfl rfl rfl (by decide) hM.o (by decide) ?_
  refine wp_aload_n k245_23 rfl rfl ?_
  refine wp_iconst 3 k245_24 (by decide) ?_
  refine wp_iconst 1 k245_25 (by decide) ?_
  refine wp_iload_n k245_26 rfl rfl ?_
  refine wp_ishl k245_27 ?_
  refine wp_iconst 0 k245_28 (by decide) ?_
  refine wp_cvn (st2 := []) k245_29 (e_notes hM) (by decide) rfl rfl rfl rfl (by decide) hM.o (by decide) ?_
  refine wp_iload_n k245_32 rfl rfl ?_
  exact wp_reti k245_33 rfl rfl rfl
end M25
