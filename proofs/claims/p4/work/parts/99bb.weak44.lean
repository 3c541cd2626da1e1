section M44
/-! ===== the class: tokens, names, formulas, knowledge, log (that they end, what they leave as it is) ===== -/
theorem i_minN {a b : Nat} (ha : a ≤ 100000) (hb : b ≤ 100000) : (if Int32.ofNat b < Int32.ofNat a then Int32.ofNat b else Int32.ofNat a) = Int32.ofNat (if a < b then a else b) := by
  by_cases h : a < b
  · rw [if_pos h, if_neg (i_nlt (by omega) (by omega))]
  · rw [if_neg h]
    by_cases q : b < a
    · rw [if_pos (i_lt q (by omega))]
    · rw [if_neg (i_nlt (by omega) (by omega)), show a = b by omega]
theorem cw158 {S : ww_S} {sh : List mm_C} {V : hV} {p0 n0 : Nat} (h0 : kA sh p0 n0) (b0 : n0 ≤ 100000) {p1 n1 : Nat} (h1 : kA sh p1 n1) (b1 : n1 ≤ 100000) : EVQ S 1 158 [.ref p0, .ref p1] (hH sh V) (wN sh V) := by
  have f0 := FR.r sh V
  refine ev_of P158 rfl ?_
  refine wp_aload_n k158_0 rfl rfl ?_
  refine wp_iconst 0 k158_1 (by decide) ?_
  refine wp_aload_n k158_2 rfl rfl ?_
  refine wp_iconst 0 k158_3 (by decide) ?_
  refine wp_aload_n k158_4 rfl rfl ?_
  refine wp_alen k158_5 rfl h0.h h0.o ?_
  refine wp_aload_n k158_6 rfl rfl ?_
  refine wp_alen k158_7 rfl h1.h h1.o ?_
  refine wp_min k158_8 rfl ?_
  refine wp_cast (i_minN b0 b1) ?_
  refine wp_acopy (a := 0) (b := 0) k158_11 rfl h0.h h1.h h0.o h1.o (by split <;> omega) (by split <;> omega) b0 b1 ?_
  obtain ⟨W11, hW11⟩ : ∃ W, acp V p0 0 p1 0 (if n0 < n1 then n0 else n1) = W := ⟨_, rfl⟩
  have g11 : FR sh V W11 := hW11 ▸ fr_cp h1
  rw [hW11]
  have f11 := FR.t f0 g11
  exact wp_retN k158_14 rfl ⟨_, rfl, rfl, f11⟩
theorem cw167 {S : ww_S} {sh : List mm_C} {V : hV} {p0 : Int32} : EVQ S 1 167 [.int p0] (hH sh V) (wS sh V) := by
  have f0 := FR.r sh V
  refine ev_of P167 rfl ?_
  refine wp_iload_n k167_0 rfl rfl ?_
  refine wp_tsw k167_1 (fun i9 t9 g9 e9 => ?_) (fun c1 => ?_) (by decide)
  · have b9 : i9 < 6 := (List.getElem?_eq_some_iff.mp g9).1
    obtain rfl | rfl | rfl | rfl | rfl | rfl : i9 = 0 ∨ i9 = 1 ∨ i9 = 2 ∨ i9 = 3 ∨ i9 = 4 ∨ i9 = 5 := by omega
    · cases g9
      refine wp_ldc_wR k167_40 ?_
      exact wp_retS k167_43 rfl ⟨_, _, _, XS6, rfl, rfl⟩
    · cases g9
      refine wp_ldc_wR k167_44 ?_
      exact wp_retS k167_47 rfl ⟨_, _, _, XS8, rfl, rfl⟩
    · cases g9
      refine wp_ldc_wR k167_48 ?_
      exact wp_retS k167_51 rfl ⟨_, _, _, XS10, rfl, rfl⟩
    · cases g9
      refine wp_ldc_wR k167_52 ?_
      exact wp_retS k167_55 rfl ⟨_, _, _, XS12, rfl, rfl⟩
    · cases g9
      refine wp_ldc_wR k167_56 ?_
      exact wp_retS k167_59 rfl ⟨_, _, _, XS14, rfl, rfl⟩
    · cases g9
      refine wp_ldc_wR k167_60 ?_
      exact wp_retS k167_63 rfl ⟨_, _, _, XS16, rfl, rfl⟩
  · refine wp_ldc_wR k167_64 ?_
    exact wp_retS k167_67 rfl ⟨_, _, _, XS18, rfl, rfl⟩
theorem cw168 {S : ww_S} {sh : List mm_C} {V : hV} {p0 : Int32} : EVQ S 1 168 [.int p0] (hH sh V) (wS sh V) := by
  have f0 := FR.r sh V
  refine ev_of P168 rfl ?_
  refine wp_iload_n k168_0 rfl rfl ?_
  refine wp_tsw k168_1 (fun i9 t9 g9 e9 => ?_) (fun c1 => ?_) (by decide)
  · have b9 : i9 < 4 := (List.getElem?_eq_some_iff.mp g9).1
    obtain rfl | rfl | rfl | rfl : i9 = 0 ∨ i9 = 1 ∨ i9 = 2 ∨ i9 = 3 := by omega
    · cases g9
      refine wp_ldc_wR k168_32 ?_
      exact wp_retS k168_35 rfl ⟨_, _, _, XS36, rfl, rfl⟩
    · cases g9
      refine wp_ldc_wR k168_36 ?_
      exact wp_retS k168_39 rfl ⟨_, _, _, XS38, rfl, rfl⟩
    · cases g9
      refine wp_ldc_wR k168_40 ?_
      exact wp_retS k168_43 rfl ⟨_, _, _, XS40, rfl, rfl⟩
    · cases g9
      refine wp_ldc_wR k168_44 ?_
      exact wp_retS k168_47 rfl ⟨_, _, _, XS42, rfl, rfl⟩
  · refine wp_ldc_wR k168_48 ?_
    exact wp_retS k168_51 rfl ⟨_, _, _, XS44, rfl, rfl⟩
theorem cw68 {S : ww_S} {sh : List mm_C} {V : hV} (h0 : kSrc sh) {p1 : Int32} : EVQ S 6 68 [.ref 65, .int p1] (hH sh V) (wI sh V) := by
  have f0 := FR.r sh V
  have j51 : ∀ (x2_51 : Int32) (xs0_51 : Int32) (W51 : hV), FR sh V W51 → WP S 5 mm_m68 51 [some (.ref 65), some (.int p1), some (.int x2_51)] [.int xs0_51] (hH sh W51) (wI sh V) := by
    intro x2_51 xs0_51 W51 f51
    exact wp_retI k68_51 rfl ⟨_, _, rfl, rfl, f51⟩
  have j2 : ∀ (m2 : Nat) (x2_2 : Int32) (W2 : hV), mea x2_2 < m2 → FR sh V W2 → WP S 5 mm_m68 2 [some (.ref 65), some (.int p1), some (.int x2_2)] [] (hH sh W2) (wI sh V) := by
    intro m2
    induction m2 with
    | zero =>
      intro x2_2 W2 hm2 f2
      exact absurd hm2 (Nat.not_lt_zero _)
    | succ m2 ih2 =>
      intro x2_2 W2 hm2 f2
      refine wp_iload_n k68_2 rfl rfl ?_
      refine wp_bipush 7 k68_3 (by decide) ?_
      refine wp_if_icmp_gt k68_5 (fun c5 => ?_) (fun c5 => ?_)
      · refine wp_aload_n k68_32 rfl rfl ?_
        refine wp_iload_n k68_33 rfl rfl ?_
        refine wp_ldcR k68_34 ?_
        refine wcvZ (st2 := []) k68_36 (cw70 (S := S) h0 XS20) (by decide) rfl rfl rfl rfl (by decide) h0.1.o (by decide) (fun b36 W36 g36 => ?_)
        have f36 := FR.t f2 g36
        refine wp_if_eq k68_39 (fun c39 => ?_) (fun c39 => ?_)
        · refine wp_sipush 256 k68_48 (by decide) ?_
          exact j51 _ _ _ f36
        · refine wp_sipush 265 k68_42 (by decide) ?_
          refine wp_goto k68_45 ?_
          exact j51 _ _ _ f36
      · have hd2 : mea (x2_2 + 1) < m2 := Nat.lt_of_lt_of_le (mea_n c5 (by decide)) (Nat.le_of_lt_succ hm2)
        refine wp_aload_n k68_8 rfl rfl ?_
        refine wp_iload_n k68_9 rfl rfl ?_
        refine wp_iload_n k68_10 rfl rfl ?_
        refine wcsS (st2 := [_, _]) k68_11 (cw167 (S := S)) (by decide) rfl rfl rfl (by decide) (fun k11 n11 N11 hx11 => ?_)
        refine wcvZ (st2 := []) k68_14 (cw70 (S := S) h0 hx11) (by decide) rfl rfl rfl rfl (by decide) h0.1.o (by decide) (fun b14 W14 g14 => ?_)
        have f14 := FR.t f2 g14
        refine wp_if_eq k68_17 (fun c17 => ?_) (fun c17 => ?_)
        · refine wp_iinc (L1 := [_, _, _]) 1 k68_26 rfl (by decide) rfl ?_
          refine wp_goto k68_29 ?_
          exact ih2 _ _ hd2 f14
        · refine wp_sipush 256 k68_20 (by decide) ?_
          refine wp_iload_n k68_23 rfl rfl ?_
          refine wp_iadd k68_24 ?_
          exact wp_retI k68_25 rfl ⟨_, _, rfl, rfl, f14⟩
  refine ev_of P68 rfl ?_
  refine wp_iconst 1 k68_0 (by decide) ?_
  refine wp_istore_n (L1 := [_, _, _]) k68_1 rfl rfl ?_
  exact j2 _ _ _ (Nat.lt_succ_self _) f0
theorem cw69 {S : ww_S} {sh : List mm_C} {V : hV} (h0 : kSrc sh) {p1 : Int32} : EVQ S 3 69 [.ref 65, .int p1] (hH sh V) (wI sh V) := by
  have f0 := FR.r sh V
  have j43 : ∀ (x2_43 : Int32) (x3_43 : Int32) (W43 : hV), FR sh V W43 → WP S 2 mm_m69 43 [some (.ref 65), some (.int p1), some (.int x2_43), some (.int x3_43)] [] (hH sh W43) (wI sh V) := by
    intro x2_43 x3_43 W43 f43
    refine wp_iload_n k69_43 rfl rfl ?_
    exact wp_retI k69_44 rfl ⟨_, _, rfl, rfl, f43⟩
  have j4 : ∀ (m4 : Nat) (x2_4 : Int32) (x3_4 : Int32) (W4 : hV), mea x3_4 < m4 → FR sh V W4 → WP S 2 mm_m69 4 [some (.ref 65), some (.int p1), some (.int x2_4), some (.int x3_4)] [] (hH sh W4) (wI sh V) := by
    intro m4
    induction m4 with
    | zero =>
      intro x2_4 x3_4 W4 hm4 f4
      exact absurd hm4 (Nat.not_lt_zero _)
    | succ m4 ih4 =>
      intro x2_4 x3_4 W4 hm4 f4
      refine wp_iload_n k69_4 rfl rfl ?_
      refine wp_bipush 6 k69_5 (by decide) ?_
      refine wp_if_icmp_ge k69_7 (fun c7 => ?_) (fun c7 => ?_)
      · exact j43 _ _ _ f4
      · have hd4 : mea (x3_4 + 1) < m4 := Nat.lt_of_lt_of_le (mea_s c7) (Nat.le_of_lt_succ hm4)
        refine wp_aload_n k69_10 rfl rfl ?_
        refine wp_iload_n k69_11 rfl rfl ?_
        refine wp_iload_n k69_12 rfl rfl ?_
        refine wp_iadd k69_13 ?_
        refine wcvZ (st2 := []) k69_14 (cw71 (S := S) h0) (by decide) rfl rfl rfl rfl (by decide) h0.1.o (by decide) (fun b14 W14 g14 => ?_)
        have f14 := FR.t f4 g14
        refine wp_if_eq k69_17 (fun c17 => ?_) (fun c17 => ?_)
        · exact j43 _ _ _ f14
        · refine wp_iload_n k69_20 rfl rfl ?_
          refine wp_aload_n k69_21 rfl rfl ?_
          refine wp_iload_n k69_22 rfl rfl ?_
          refine wp_iload_n k69_23 rfl rfl ?_
          refine wp_iadd k69_24 ?_
          refine wcvI (st2 := [_]) k69_25 (cw72 (S := S) h0) (by decide) rfl rfl rfl rfl (by decide) h0.1.o (by decide) (fun x25 W25 g25 => ?_)
          have f25 := FR.t f14 g25
          refine wp_bipush 96 k69_28 (by decide) ?_
          refine wp_isub k69_30 ?_
          refine wp_iconst 5 k69_31 (by decide) ?_
          refine wp_iload_n k69_32 rfl rfl ?_
          refine wp_imul k69_33 ?_
          refine wp_ishl k69_34 ?_
          refine wp_ior k69_35 ?_
          refine wp_istore_n (L1 := [_, _, _, _]) k69_36 rfl rfl ?_
          refine wp_iinc (L1 := [_, _, _, _]) 1 k69_37 rfl (by decide) rfl ?_
          refine wp_goto k69_40 ?_
          exact ih4 _ _ _ hd4 f25
  refine ev_of P69 rfl ?_
  refine wp_iconst 0 k69_0 (by decide) ?_
  refine wp_istore_n (L1 := [_, _, _, _]) k69_1 rfl rfl ?_
  refine wp_iconst 0 k69_2 (by decide) ?_
  refine wp_istore_n (L1 := [_, _, _, _]) k69_3 rfl rfl ?_
  exact j4 _ _ _ _ (Nat.lt_succ_self _) f0
theorem cw73 {S : ww_S} {sh : List mm_C} {V : hV} (h0 : kSrc sh) {p1 : Int32} {p2 : Int32} {p3 : Int32} : EVQ S 2 73 [.ref 65, .int p1, .int p2, .int p3] (hH sh V) (wN sh V) := by
  have f0 := FR.r sh V
  refine ev_of P73 rfl ?_
  refine wp_aload_n k73_0 rfl rfl ?_
  refine wq_getR k73_1 h0.1 rfl ?_
  refine wp_aload_n k73_4 rfl rfl ?_
  refine wq_getI k73_5 h0.1 rfl ?_
  refine wp_iload_n k73_8 rfl rfl ?_
  refine wcsN (st2 := []) k73_9 (cw157 (S := S) h0.2.2.1 (by decide)) (by decide) rfl rfl rfl (by decide) (fun W9 g9 => ?_)
  have f9 := FR.t f0 g9
  refine wp_aload_n k73_12 rfl rfl ?_
  refine wq_getR k73_13 h0.1 rfl ?_
  refine wp_aload_n k73_16 rfl rfl ?_
  refine wq_getI k73_17 h0.1 rfl ?_
  refine wp_iload_n k73_20 rfl rfl ?_
  refine wcsN (st2 := []) k73_21 (cw157 (S := S) h0.2.2.2.1 (by decide)) (by decide) rfl rfl rfl (by decide) (fun W21 g21 => ?_)
  have f21 := FR.t f9 g21
  refine wp_aload_n k73_24 rfl rfl ?_
  refine wq_getR k73_25 h0.1 rfl ?_
  refine wp_aload_n k73_28 rfl rfl ?_
  refine wq_getI k73_29 h0.1 rfl ?_
  refine wp_iload_n k73_32 rfl rfl ?_
  refine wcsN (st2 := []) k73_33 (cw157 (S := S) h0.2.2.2.2 (by decide)) (by decide) rfl rfl rfl (by decide) (fun W33 g33 => ?_)
  have f33 := FR.t f21 g33
  refine wp_aload_n k73_36 rfl rfl ?_
  refine wp_dup k73_37 rfl ?_
  refine wq_getI k73_38 h0.1 rfl ?_
  refine wp_iconst 1 k73_41 (by decide) ?_
  refine wp_iadd k73_42 ?_
  refine wq_putI k73_43 h0.1 rfl rfl rfl (Or.inr (by decide)) rfl (fun W43 g43 => ?_)
  have f43 := FR.t f33 g43
  exact wp_retN k73_46 rfl ⟨_, rfl, rfl, f43⟩
theorem cw74 {S : ww_S} {sh : List mm_C} {V : hV} (h0 : kSrc sh) : EVQ S 2 74 [.ref 65] (hH sh V) (wN sh V) := by
  have f0 := FR.r sh V
  refine ev_of P74 rfl ?_
  refine wp_aload_n k74_0 rfl rfl ?_
  refine wp_aload_n k74_1 rfl rfl ?_
  refine wq_getI k74_2 h0.1 rfl ?_
  refine wp_iconst 1 k74_5 (by decide) ?_
  refine wp_iadd k74_6 ?_
  refine wp_aload_n k74_7 rfl rfl ?_
  refine wq_getI k74_8 h0.1 rfl ?_
  refine wp_iconst 1 k74_11 (by decide) ?_
  refine wp_isub k74_12 ?_
  refine wp_min k74_13 rfl ?_
  refine wq_putI k74_16 h0.1 rfl rfl rfl (Or.inr (by decide)) rfl (fun W16 g16 => ?_)
  have f16 := FR.t f0 g16
  refine wp_aload_n k74_19 rfl rfl ?_
  refine wp_aload_n k74_20 rfl rfl ?_
  refine wq_getR k74_21 h0.1 rfl ?_
  refine wp_aload_n k74_24 rfl rfl ?_
  refine wq_getI k74_25 h0.1 rfl ?_
  refine wcsI (st2 := [_]) k74_28 (cw156 (S := S) h0.2.2.1 (by decide)) (by decide) rfl rfl rfl (by decide) (fun x28 W28 g28 => ?_)
  have f28 := FR.t f16 g28
  refine wq_putI k74_31 h0.1 rfl rfl rfl (Or.inr (by decide)) rfl (fun W31 g31 => ?_)
  have f31 := FR.t f28 g31
  refine wp_aload_n k74_34 rfl rfl ?_
  refine wp_aload_n k74_35 rfl rfl ?_
  refine wq_getR k74_36 h0.1 rfl ?_
  refine wp_aload_n k74_39 rfl rfl ?_
  refine wq_getI k74_40 h0.1 rfl ?_
  refine wcsI (st2 := [_]) k74_43 (cw156 (S := S) h0.2.2.2.1 (by decide)) (by decide) rfl rfl rfl (by decide) (fun x43 W43 g43 => ?_)
  have f43 := FR.t f31 g43
  refine wq_putI k74_46 h0.1 rfl rfl rfl (Or.inr (by decide)) rfl (fun W46 g46 => ?_)
  have f46 := FR.t f43 g46
  refine wp_aload_n k74_49 rfl rfl ?_
  refine wp_aload_n k74_50 rfl rfl ?_
  refine wq_getR k74_51 h0.1 rfl ?_
  refine wp_aload_n k74_54 rfl rfl ?_
  refine wq_getI k74_55 h0.1 rfl ?_
  refine wcsI (st2 := [_]) k74_58 (cw156 (S := S) h0.2.2.2.2 (by decide)) (by decide) rfl rfl rfl (by decide) (fun x58 W58 g58 => ?_)
  have f58 := FR.t f46 g58
  refine wq_putI k74_61 h0.1 rfl rfl rfl (Or.inr (by decide)) rfl (fun W61 g61 => ?_)
  have f61 := FR.t f58 g61
  exact wp_retN k74_64 rfl ⟨_, rfl, rfl, f61⟩
theorem cw75 {S : ww_S} {sh : List mm_C} {V : hV} (h0 : kSrc sh) {p1 : Int32} {p2 : Int32} : EVQ S 1 75 [.ref 65, .int p1, .int p2] (hH sh V) (wN sh V) := by
  have f0 := FR.r sh V
  have j17 : ∀  (W17 : hV), FR sh V W17 → WP S 0 mm_m75 17 [some (.ref 65), some (.int p1), some (.int p2)] [] (hH sh W17) (wN sh V) := by
    intro W17 f17
    exact wp_retN k75_17 rfl ⟨_, rfl, rfl, f17⟩
  refine ev_of P75 rfl ?_
  refine wp_aload_n k75_0 rfl rfl ?_
  refine wq_getI k75_1 h0.1 rfl ?_
  refine wp_if_ne k75_4 (fun c4 => ?_) (fun c4 => ?_)
  · exact j17  _ f0
  · refine wp_aload_n k75_7 rfl rfl ?_
    refine wp_iload_n k75_8 rfl rfl ?_
    refine wq_putI k75_9 h0.1 rfl rfl rfl (Or.inr (by decide)) rfl (fun W9 g9 => ?_)
    have f9 := FR.t f0 g9
    refine wp_aload_n k75_12 rfl rfl ?_
    refine wp_iload_n k75_13 rfl rfl ?_
    refine wq_putI k75_14 h0.1 rfl rfl rfl (Or.inr (by decide)) rfl (fun W14 g14 => ?_)
    have f14 := FR.t f9 g14
    exact j17  _ f14
theorem cw76 {S : ww_S} {sh : List mm_C} {V : hV} (h0 : kSrc sh) : EVQ S 1 76 [.ref 65] (hH sh V) (wZ sh V) := by
  have f0 := FR.r sh V
  have j12 : ∀ (bs0_12 : Bool) (W12 : hV), FR sh V W12 → WP S 0 mm_m76 12 [some (.ref 65)] [.int (bI bs0_12)] (hH sh W12) (wZ sh V) := by
    intro bs0_12 W12 f12
    exact wp_retZ (b := bs0_12) k76_12 rfl ⟨bs0_12, _, rfl, rfl, f12⟩
  refine ev_of P76 rfl ?_
  refine wp_aload_n k76_0 rfl rfl ?_
  refine wq_getI k76_1 h0.1 rfl ?_
  refine wp_if_eq k76_4 (fun c4 => ?_) (fun c4 => ?_)
  · refine wp_iconst 0 k76_11 (by decide) ?_
    exact j12 false _ f0
  · refine wp_iconst 1 k76_7 (by decide) ?_
    refine wp_goto k76_8 ?_
    exact j12 true _ f0
theorem cw77 {S : ww_S} {sh : List mm_C} {V : hV} (h0 : kSrc sh) {p1 n1 N1 : Nat} (h1 : XS p1 n1 N1) : EVQ S 6 77 [.ref 65, .ref p1] (hH sh V) (wZ sh V) := by
  have f0 := FR.r sh V
  refine ev_of P77 rfl ?_
  refine wp_aload_n k77_0 rfl rfl ?_
  refine wp_aload_n k77_1 rfl rfl ?_
  refine wq_getI k77_2 h0.1 rfl ?_
  refine wp_aload_n k77_5 rfl rfl ?_
  refine wcvZ (st2 := []) k77_6 (cw70 (S := S) h0 h1) (by decide) rfl rfl rfl rfl (by decide) h0.1.o (by decide) (fun b6 W6 g6 => ?_)
  have f6 := FR.t f0 g6
  exact wp_retZ (b := b6) k77_9 rfl ⟨b6, _, rfl, rfl, f6⟩
theorem cw78 {S : ww_S} {sh : List mm_C} {V : hV} (h0 : kSrc sh) : EVQ S 1 78 [.ref 65] (hH sh V) (wZ sh V) := by
  have f0 := FR.r sh V
  have j15 : ∀ (bs0_15 : Bool) (W15 : hV), FR sh V W15 → WP S 0 mm_m78 15 [some (.ref 65)] [.int (bI bs0_15)] (hH sh W15) (wZ sh V) := by
    intro bs0_15 W15 f15
    exact wp_retZ (b := bs0_15) k78_15 rfl ⟨bs0_15, _, rfl, rfl, f15⟩
  refine ev_of P78 rfl ?_
  refine wp_aload_n k78_0 rfl rfl ?_
  refine wq_getI k78_1 h0.1 rfl ?_
  refine wp_sipush 256 k78_4 (by decide) ?_
  refine wp_if_icmp_ne k78_7 (fun c7 => ?_) (fun c7 => ?_)
  · refine wp_iconst 0 k78_14 (by decide) ?_
    exact j15 false _ f0
  · refine wp_iconst 1 k78_10 (by decide) ?_
    refine wp_goto k78_11 ?_
    exact j15 true _ f0
theorem cw79 {S : ww_S} {sh : List mm_C} {V : hV} (h0 : kSrc sh) {p1 n1 N1 : Nat} (h1 : XS p1 n1 N1) : EVQ S 7 79 [.ref 65, .ref p1] (hH sh V) (wN sh V) := by
  have f0 := FR.r sh V
  have j24 : ∀  (W24 : hV), FR sh V W24 → WP S 6 mm_m79 24 [some (.ref 65), some (.ref p1)] [] (hH sh W24) (wN sh V) := by
    intro W24 f24
    exact wp_retN k79_24 rfl ⟨_, rfl, rfl, f24⟩
  refine ev_of P79 rfl ?_
  refine wp_aload_n k79_0 rfl rfl ?_
  refine wp_aload_n k79_1 rfl rfl ?_
  refine wcvZ (st2 := []) k79_2 (cw77 (S := S) h0 h1) (by decide) rfl rfl rfl rfl (by decide) h0.1.o (by decide) (fun b2 W2 g2 => ?_)
  have f2 := FR.t f0 g2
  refine wp_if_eq k79_5 (fun c5 => ?_) (fun c5 => ?_)
  · refine wp_aload_n k79_15 rfl rfl ?_
    refine wp_iconst 1 k79_16 (by decide) ?_
    refine wp_aload_n k79_17 rfl rfl ?_
    refine wq_getI k79_18 h0.1 rfl ?_
    refine wcvN (st2 := []) k79_21 (cw75 (S := S) h0) (by decide) rfl rfl rfl rfl (by decide) h0.1.o (by decide) (fun W21 g21 => ?_)
    have f21 := FR.t f2 g21
    exact j24  _ f21
  · refine wp_aload_n k79_8 rfl rfl ?_
    refine wcvN (st2 := []) k79_9 (cw74 (S := S) h0) (by decide) rfl rfl rfl rfl (by decide) h0.1.o (by decide) (fun W9 g9 => ?_)
    have f9 := FR.t f2 g9
    refine wp_goto k79_12 ?_
    exact j24  _ f9
theorem cw80 {S : ww_S} {sh : List mm_C} {V : hV} (h0 : kSrc sh) {p1 : Int32} : EVQ S 3 80 [.ref 65, .int p1] (hH sh V) (wZ sh V) := by
  have f0 := FR.r sh V
  refine ev_of P80 rfl ?_
  refine wp_aload_n k80_0 rfl rfl ?_
  refine wq_getI k80_1 h0.1 rfl ?_
  refine wp_iload_n k80_4 rfl rfl ?_
  refine wp_if_icmp_eq k80_5 (fun c5 => ?_) (fun c5 => ?_)
  · refine wp_aload_n k80_19 rfl rfl ?_
    refine wcvN (st2 := []) k80_20 (cw74 (S := S) h0) (by decide) rfl rfl rfl rfl (by decide) h0.1.o (by decide) (fun W20 g20 => ?_)
    have f20 := FR.t f0 g20
    refine wp_iconst 1 k80_23 (by decide) ?_
    exact wp_retZ (b := true) k80_24 rfl ⟨true, _, rfl, rfl, f20⟩
  · refine wp_aload_n k80_8 rfl rfl ?_
    refine wp_iconst 1 k80_9 (by decide) ?_
    refine wp_aload_n k80_10 rfl rfl ?_
    refine wq_getI k80_11 h0.1 rfl ?_
    refine wcvN (st2 := []) k80_14 (cw75 (S := S) h0) (by decide) rfl rfl rfl rfl (by decide) h0.1.o (by decide) (fun W14 g14 => ?_)
    have f14 := FR.t f0 g14
    refine wp_iconst 0 k80_17 (by decide) ?_
    exact wp_retZ (b := false) k80_18 rfl ⟨false, _, rfl, rfl, f14⟩
theorem cw81 {S : ww_S} {sh : List mm_C} {V : hV} (h0 : kSrc sh) : EVQ S 2 81 [.ref 65] (hH sh V) (wN sh V) := by
  have f0 := FR.r sh V
  have j19 : ∀  (W19 : hV), FR sh V W19 → WP S 1 mm_m81 19 [some (.ref 65)] [] (hH sh W19) (wN sh V) := by
    intro W19 f19
    exact wp_retN k81_19 rfl ⟨_, rfl, rfl, f19⟩
  refine ev_of P81 rfl ?_
  refine wp_aload_n k81_0 rfl rfl ?_
  refine wq_getI k81_1 h0.1 rfl ?_
  refine wp_sipush 267 k81_4 (by decide) ?_
  refine wp_if_icmp_eq k81_7 (fun c7 => ?_) (fun c7 => ?_)
  · exact j19  _ f0
  · refine wp_aload_n k81_10 rfl rfl ?_
    refine wp_iconst 1 k81_11 (by decide) ?_
    refine wp_aload_n k81_12 rfl rfl ?_
    refine wq_getI k81_13 h0.1 rfl ?_
    refine wcvN (st2 := []) k81_16 (cw75 (S := S) h0) (by decide) rfl rfl rfl rfl (by decide) h0.1.o (by decide) (fun W16 g16 => ?_)
    have f16 := FR.t f0 g16
    exact j19  _ f16
theorem cw67 {S : ww_S} {sh : List mm_C} {V : hV} (h0 : kSrc sh) {p1 : Int32} : EVQ S 7 67 [.ref 65, .int p1] (hH sh V) (wI sh V) := by
  have f0 := FR.r sh V
  have j98 : ∀ (x2_98 : Int32) (x3_98 : Int32) (xs0_98 : Int32) (xs2_98 : Int32) (W98 : hV), FR sh V W98 → WP S 6 mm_m67 98 [some (.ref 65), some (.int p1), some (.int x2_98), some (.int x3_98)] [.int xs0_98, .int p1, .int xs2_98, .ref 65] (hH sh W98) (wI sh V) := by
    intro x2_98 x3_98 xs0_98 xs2_98 W98 f98
    refine wcvN (st2 := []) k67_98 (cw73 (S := S) h0) (by decide) rfl rfl rfl rfl (by decide) h0.1.o (by decide) (fun W98 g98 => ?_)
    have f98 := FR.t f98 g98
    refine wp_iload_n k67_101 rfl rfl ?_
    refine wp_iload_n k67_102 rfl rfl ?_
    refine wp_iadd k67_103 ?_
    exact wp_retI k67_104 rfl ⟨_, _, rfl, rfl, f98⟩
  have j78 : ∀ (x2_78 : Int32) (xs0_78 : Int32) (W78 : hV), FR sh V W78 → WP S 6 mm_m67 78 [some (.ref 65), some (.int p1), some (.int x2_78), none] [.int xs0_78] (hH sh W78) (wI sh V) := by
    intro x2_78 xs0_78 W78 f78
    refine wp_istore_n (L1 := [_, _, _, _]) k67_78 rfl rfl ?_
    refine wp_aload_n k67_79 rfl rfl ?_
    refine wp_iload_n k67_80 rfl rfl ?_
    refine wp_iload_n k67_81 rfl rfl ?_
    refine wp_iload_n k67_82 rfl rfl ?_
    refine wp_sipush 256 k67_83 (by decide) ?_
    refine wp_if_icmp_ne k67_86 (fun c86 => ?_) (fun c86 => ?_)
    · refine wp_iconst 0 k67_97 (by decide) ?_
      exact j98 _ _ _ _ _ f78
    · refine wp_aload_n k67_89 rfl rfl ?_
      refine wp_iload_n k67_90 rfl rfl ?_
      refine wcvI (st2 := [_, _, _]) k67_91 (cw69 (S := S) h0) (by decide) rfl rfl rfl rfl (by decide) h0.1.o (by decide) (fun x91 W91 g91 => ?_)
      have f91 := FR.t f78 g91
      refine wp_goto k67_94 ?_
      exact j98 _ _ _ _ _ f91
  have j42 : ∀ (x2_42 : Int32) (W42 : hV), FR sh V W42 → WP S 6 mm_m67 42 [some (.ref 65), some (.int p1), some (.int x2_42), none] [] (hH sh W42) (wI sh V) := by
    intro x2_42 W42 f42
    refine wp_iload_n k67_42 rfl rfl ?_
    refine wp_if_ne k67_43 (fun c43 => ?_) (fun c43 => ?_)
    · refine wp_iload_n k67_61 rfl rfl ?_
      refine wp_bipush 6 k67_62 (by decide) ?_
      refine wp_if_icmp_le k67_64 (fun c64 => ?_) (fun c64 => ?_)
      · refine wp_aload_n k67_73 rfl rfl ?_
        refine wp_iload_n k67_74 rfl rfl ?_
        refine wcvI (st2 := []) k67_75 (cw68 (S := S) h0) (by decide) rfl rfl rfl rfl (by decide) h0.1.o (by decide) (fun x75 W75 g75 => ?_)
        have f75 := FR.t f42 g75
        exact j78 _ _ _ f75
      · refine wp_sipush 266 k67_67 (by decide) ?_
        refine wp_goto k67_70 ?_
        exact j78 _ _ _ f42
    · refine wp_aload_n k67_46 rfl rfl ?_
      refine wp_aload_n k67_47 rfl rfl ?_
      refine wp_iload_n k67_48 rfl rfl ?_
      refine wcvI (st2 := [_]) k67_49 (cw72 (S := S) h0) (by decide) rfl rfl rfl rfl (by decide) h0.1.o (by decide) (fun x49 W49 g49 => ?_)
      have f49 := FR.t f42 g49
      refine wp_iload_n k67_52 rfl rfl ?_
      refine wp_iconst 0 k67_53 (by decide) ?_
      refine wcvN (st2 := []) k67_54 (cw73 (S := S) h0) (by decide) rfl rfl rfl rfl (by decide) h0.1.o (by decide) (fun W54 g54 => ?_)
      have f54 := FR.t f49 g54
      refine wp_iload_n k67_57 rfl rfl ?_
      refine wp_iconst 1 k67_58 (by decide) ?_
      refine wp_iadd k67_59 ?_
      exact wp_retI k67_60 rfl ⟨_, _, rfl, rfl, f54⟩
  have j16 : ∀ (m16 : Nat) (x2_16 : Int32) (W16 : hV), mea (p1 + x2_16) < m16 → FR sh V W16 → WP S 6 mm_m67 16 [some (.ref 65), some (.int p1), some (.int x2_16), none] [] (hH sh W16) (wI sh V) := by
    intro m16
    induction m16 with
    | zero =>
      intro x2_16 W16 hm16 f16
      exact absurd hm16 (Nat.not_lt_zero _)
    | succ m16 ih16 =>
      intro x2_16 W16 hm16 f16
      refine wp_iload_n k67_16 rfl rfl ?_
      refine wp_iload_n k67_17 rfl rfl ?_
      refine wp_iadd k67_18 ?_
      refine wp_aload_n k67_19 rfl rfl ?_
      refine wq_getI k67_20 h0.1 rfl ?_
      refine wp_if_icmp_ge k67_23 (fun c23 => ?_) (fun c23 => ?_)
      · exact j42 _ _ f16
      · have hd16 : mea (p1 + x2_16 + 1) < m16 := Nat.lt_of_lt_of_le (mea_s c23) (Nat.le_of_lt_succ hm16)
        refine wp_aload_n k67_26 rfl rfl ?_
        refine wp_iload_n k67_27 rfl rfl ?_
        refine wp_iload_n k67_28 rfl rfl ?_
        refine wp_iadd k67_29 ?_
        refine wcvZ (st2 := []) k67_30 (cw71 (S := S) h0) (by decide) rfl rfl rfl rfl (by decide) h0.1.o (by decide) (fun b30 W30 g30 => ?_)
        have f30 := FR.t f16 g30
        refine wp_if_eq k67_33 (fun c33 => ?_) (fun c33 => ?_)
        · exact j42 _ _ f30
        · refine wp_iinc (L1 := [_, _, _, _]) 1 k67_36 rfl (by decide) rfl ?_
          refine wp_goto k67_39 ?_
          exact ih16 _ _ (mea_a hd16) f30
  refine ev_of P67 rfl ?_
  refine wp_aload_n k67_0 rfl rfl ?_
  refine wp_iload_n k67_1 rfl rfl ?_
  refine wcvI (st2 := []) k67_2 (cw72 (S := S) h0) (by decide) rfl rfl rfl rfl (by decide) h0.1.o (by decide) (fun x2 W2 g2 => ?_)
  have f2 := FR.t f0 g2
  refine wp_bipush 32 k67_5 (by decide) ?_
  refine wp_if_icmp_ne k67_7 (fun c7 => ?_) (fun c7 => ?_)
  · refine wp_iconst 0 k67_14 (by decide) ?_
    refine wp_istore_n (L1 := [_, _, _, _]) k67_15 rfl rfl ?_
    exact j16 _ _ _ (Nat.lt_succ_self _) f2
  · refine wp_iload_n k67_10 rfl rfl ?_
    refine wp_iconst 1 k67_11 (by decide) ?_
    refine wp_iadd k67_12 ?_
    exact wp_retI k67_13 rfl ⟨_, _, rfl, rfl, f2⟩
theorem cw65 {S : ww_S} {sh : List mm_C} {V : hV} (h0 : kSrc sh) : EVQ S 8 65 [.ref 65] (hH sh V) (wN sh V) := by
  have f0 := FR.r sh V
  have j46 : ∀ (x1_46 : Int32) (x2_46 : Int32) (W46 : hV), FR sh V W46 → WP S 7 mm_m65 46 [some (.ref 65), some (.int x1_46), some (.int x2_46)] [] (hH sh W46) (wN sh V) := by
    intro x1_46 x2_46 W46 f46
    refine wp_aload_n k65_46 rfl rfl ?_
    refine wp_sipush 267 k65_47 (by decide) ?_
    refine wp_aload_n k65_50 rfl rfl ?_
    refine wq_getI k65_51 h0.1 rfl ?_
    refine wp_iconst 0 k65_54 (by decide) ?_
    refine wcvN (st2 := []) k65_55 (cw73 (S := S) h0) (by decide) rfl rfl rfl rfl (by decide) h0.1.o (by decide) (fun W55 g55 => ?_)
    have f55 := FR.t f46 g55
    refine wp_aload_n k65_58 rfl rfl ?_
    refine wp_iconst (-1) k65_59 (by decide) ?_
    refine wq_putI k65_60 h0.1 rfl rfl rfl (Or.inr (by decide)) rfl (fun W60 g60 => ?_)
    have f60 := FR.t f55 g60
    refine wp_aload_n k65_63 rfl rfl ?_
    refine wcvN (st2 := []) k65_64 (cw74 (S := S) h0) (by decide) rfl rfl rfl rfl (by decide) h0.1.o (by decide) (fun W64 g64 => ?_)
    have f64 := FR.t f60 g64
    exact wp_retN k65_67 rfl ⟨_, rfl, rfl, f64⟩
  have j19 : ∀ (m19 : Nat) (x1_19 : Int32) (x2_19 : Int32) (W19 : hV), mea x2_19 < m19 → FR sh V W19 → WP S 7 mm_m65 19 [some (.ref 65), some (.int x1_19), some (.int x2_19)] [] (hH sh W19) (wN sh V) := by
    intro m19
    induction m19 with
    | zero =>
      intro x1_19 x2_19 W19 hm19 f19
      exact absurd hm19 (Nat.not_lt_zero _)
    | succ m19 ih19 =>
      intro x1_19 x2_19 W19 hm19 f19
      refine wp_iload_n k65_19 rfl rfl ?_
      refine wp_sipush 600 k65_20 (by decide) ?_
      refine wp_if_icmp_ge k65_23 (fun c23 => ?_) (fun c23 => ?_)
      · exact j46 _ _ _ f19
      · have hd19 : mea (x2_19 + 1) < m19 := Nat.lt_of_lt_of_le (mea_s c23) (Nat.le_of_lt_succ hm19)
        refine wp_iload_n k65_26 rfl rfl ?_
        refine wp_aload_n k65_27 rfl rfl ?_
        refine wq_getI k65_28 h0.1 rfl ?_
        refine wp_if_icmp_ge k65_31 (fun c31 => ?_) (fun c31 => ?_)
        · exact j46 _ _ _ f19
        · refine wp_aload_n k65_34 rfl rfl ?_
          refine wp_iload_n k65_35 rfl rfl ?_
          refine wcvI (st2 := []) k65_36 (cw67 (S := S) h0) (by decide) rfl rfl rfl rfl (by decide) h0.1.o (by decide) (fun x36 W36 g36 => ?_)
          have f36 := FR.t f19 g36
          refine wp_istore_n (L1 := [_, _, _]) k65_39 rfl rfl ?_
          refine wp_iinc (L1 := [_, _, _]) 1 k65_40 rfl (by decide) rfl ?_
          refine wp_goto k65_43 ?_
          exact ih19 _ _ _ hd19 f36
  refine ev_of P65 rfl ?_
  refine wp_aload_n k65_0 rfl rfl ?_
  refine wp_iconst 0 k65_1 (by decide) ?_
  refine wq_putI k65_2 h0.1 rfl rfl rfl (Or.inr (by decide)) rfl (fun W2 g2 => ?_)
  have f2 := FR.t f0 g2
  refine wp_aload_n k65_5 rfl rfl ?_
  refine wp_iconst (-1) k65_6 (by decide) ?_
  refine wq_putI k65_7 h0.1 rfl rfl rfl (Or.inr (by decide)) rfl (fun W7 g7 => ?_)
  have f7 := FR.t f2 g7
  refine wp_aload_n k65_10 rfl rfl ?_
  refine wp_iconst 0 k65_11 (by decide) ?_
  refine wq_putI k65_12 h0.1 rfl rfl rfl (Or.inr (by decide)) rfl (fun W12 g12 => ?_)
  have f12 := FR.t f7 g12
  refine wp_iconst 0 k65_15 (by decide) ?_
  refine wp_istore_n (L1 := [_, _, _]) k65_16 rfl rfl ?_
  refine wp_iconst 0 k65_17 (by decide) ?_
  refine wp_istore_n (L1 := [_, _, _]) k65_18 rfl rfl ?_
  exact j19 _ _ _ _ (Nat.lt_succ_self _) f12
theorem cw49 {S : ww_S} {sh : List mm_C} {V : hV} {p0 : Nat} (h0 : kNames sh p0) : EVQ S 1 49 [.ref p0] (hH sh V) (wZ sh V) := by
  have f0 := FR.r sh V
  have j17 : ∀ (bs0_17 : Bool) (W17 : hV), FR sh V W17 → WP S 0 mm_m49 17 [some (.ref p0)] [.int (bI bs0_17)] (hH sh W17) (wZ sh V) := by
    intro bs0_17 W17 f17
    exact wp_retZ (b := bs0_17) k49_17 rfl ⟨bs0_17, _, rfl, rfl, f17⟩
  refine ev_of P49 rfl ?_
  refine wp_aload_n k49_0 rfl rfl ?_
  refine wq_getI k49_1 h0.1 rfl ?_
  refine wp_aload_n k49_4 rfl rfl ?_
  refine wq_getR k49_5 h0.1 rfl ?_
  refine wp_alen k49_8 rfl h0.2.h h0.2.o ?_
  refine wp_if_icmp_lt k49_9 (fun c9 => ?_) (fun c9 => ?_)
  · refine wp_iconst 0 k49_16 (by decide) ?_
    exact j17 false _ f0
  · refine wp_iconst 1 k49_12 (by decide) ?_
    refine wp_goto k49_13 ?_
    exact j17 true _ f0
theorem cw52 {S : ww_S} {sh : List mm_C} {V : hV} {p0 : Nat} (h0 : kNames sh p0) {p1 : Int32} {p2 : Int32} : EVQ S 2 52 [.ref p0, .int p1, .int p2] (hH sh V) (wI sh V) := by
  have f0 := FR.r sh V
  have j40 : ∀ (x3_40 : Int32) (xs0_40 : Int32) (W40 : hV), FR sh V W40 → WP S 1 mm_m52 40 [some (.ref p0), some (.int p1), some (.int p2), some (.int x3_40)] [.int xs0_40] (hH sh W40) (wI sh V) := by
    intro x3_40 xs0_40 W40 f40
    exact wp_retI k52_40 rfl ⟨_, _, rfl, rfl, f40⟩
  have j10 : ∀  (W10 : hV), FR sh V W10 → WP S 1 mm_m52 10 [some (.ref p0), some (.int p1), some (.int p2), none] [] (hH sh W10) (wI sh V) := by
    intro W10 f10
    refine wp_iconst (-1) k52_10 (by decide) ?_
    exact wp_retI k52_11 rfl ⟨_, _, rfl, rfl, f10⟩
  refine ev_of P52 rfl ?_
  refine wp_iload_n k52_0 rfl rfl ?_
  refine wp_if_lt k52_1 (fun c1 => ?_) (fun c1 => ?_)
  · exact j10  _ f0
  · refine wp_iload_n k52_4 rfl rfl ?_
    refine wp_bipush 6 k52_5 (by decide) ?_
    refine wp_if_icmp_lt k52_7 (fun c7 => ?_) (fun c7 => ?_)
    · refine wp_aload_n k52_12 rfl rfl ?_
      refine wq_getR k52_13 h0.1 rfl ?_
      refine wp_iload_n k52_16 rfl rfl ?_
      refine wcsI (st2 := []) k52_17 (cw156 (S := S) h0.2 (by decide)) (by decide) rfl rfl rfl (by decide) (fun x17 W17 g17 => ?_)
      have f17 := FR.t f0 g17
      refine wp_iconst 5 k52_20 (by decide) ?_
      refine wp_iload_n k52_21 rfl rfl ?_
      refine wp_imul k52_22 ?_
      refine wp_iushr k52_23 ?_
      refine wp_bipush 31 k52_24 (by decide) ?_
      refine wp_iand k52_26 ?_
      refine wp_istore_n (L1 := [_, _, _, _]) k52_27 rfl rfl ?_
      refine wp_iload_n k52_28 rfl rfl ?_
      refine wp_if_ne k52_29 (fun c29 => ?_) (fun c29 => ?_)
      · refine wp_iload_n k52_36 rfl rfl ?_
        refine wp_bipush 96 k52_37 (by decide) ?_
        refine wp_iadd k52_39 ?_
        exact j40 _ _ _ f17
      · refine wp_iconst (-1) k52_32 (by decide) ?_
        refine wp_goto k52_33 ?_
        exact j40 _ _ _ f17
    · exact j10  _ f0
theorem cw83 {S : ww_S} {sh : List mm_C} {V : hV} (h0 : kSrc sh) {p1 : Nat} (h1 : kNames sh p1) : EVQ S 2 83 [.ref 65, .ref p1] (hH sh V) (wI sh V) := by
  have f0 := FR.r sh V
  have j41 : ∀ (x2_41 : Int32) (W41 : hV), FR sh V W41 → WP S 1 mm_m83 41 [some (.ref 65), some (.ref p1), some (.int x2_41)] [] (hH sh W41) (wI sh V) := by
    intro x2_41 W41 f41
    refine wp_iload_n k83_41 rfl rfl ?_
    exact wp_retI k83_42 rfl ⟨_, _, rfl, rfl, f41⟩
  refine ev_of P83 rfl ?_
  refine wp_aload_n k83_0 rfl rfl ?_
  refine wcvZ (st2 := []) k83_1 (cw78 (S := S) h0) (by decide) rfl rfl rfl rfl (by decide) h0.1.o (by decide) (fun b1 W1 g1 => ?_)
  have f1 := FR.t f0 g1
  refine wp_if_ne k83_4 (fun c4 => ?_) (fun c4 => ?_)
  · refine wp_aload_n k83_18 rfl rfl ?_
    refine wp_aload_n k83_19 rfl rfl ?_
    refine wq_getI k83_20 h0.1 rfl ?_
    refine wcvI (st2 := []) k83_23 (cw51 (S := S) h1) (by decide) rfl rfl rfl rfl h1.1.h h1.1.o (by decide) (fun x23 W23 g23 => ?_)
    have f23 := FR.t f1 g23
    refine wp_istore_n (L1 := [_, _, _]) k83_26 rfl rfl ?_
    refine wp_iload_n k83_27 rfl rfl ?_
    refine wp_iconst (-1) k83_28 (by decide) ?_
    refine wp_if_icmp_ne k83_29 (fun c29 => ?_) (fun c29 => ?_)
    · exact j41 _ _ f23
    · refine wp_aload_n k83_32 rfl rfl ?_
      refine wp_iconst 2 k83_33 (by decide) ?_
      refine wp_aload_n k83_34 rfl rfl ?_
      refine wq_getI k83_35 h0.1 rfl ?_
      refine wcvN (st2 := []) k83_38 (cw75 (S := S) h0) (by decide) rfl rfl rfl rfl (by decide) h0.1.o (by decide) (fun W38 g38 => ?_)
      have f38 := FR.t f23 g38
      exact j41 _ _ f38
  · refine wp_aload_n k83_7 rfl rfl ?_
    refine wp_iconst 1 k83_8 (by decide) ?_
    refine wp_aload_n k83_9 rfl rfl ?_
    refine wq_getI k83_10 h0.1 rfl ?_
    refine wcvN (st2 := []) k83_13 (cw75 (S := S) h0) (by decide) rfl rfl rfl rfl (by decide) h0.1.o (by decide) (fun W13 g13 => ?_)
    have f13 := FR.t f1 g13
    refine wp_iconst (-1) k83_16 (by decide) ?_
    exact wp_retI k83_17 rfl ⟨_, _, rfl, rfl, f13⟩
theorem cw84 {S : ww_S} {sh : List mm_C} {V : hV} (h0 : kSrc sh) {p1 : Nat} (h1 : kNames sh p1) : EVQ S 3 84 [.ref 65, .ref p1] (hH sh V) (wI sh V) := by
  have f0 := FR.r sh V
  have j15 : ∀ (x2_15 : Int32) (W15 : hV), FR sh V W15 → WP S 2 mm_m84 15 [some (.ref 65), some (.ref p1), some (.int x2_15)] [] (hH sh W15) (wI sh V) := by
    intro x2_15 W15 f15
    refine wp_iload_n k84_15 rfl rfl ?_
    exact wp_retI k84_16 rfl ⟨_, _, rfl, rfl, f15⟩
  refine ev_of P84 rfl ?_
  refine wp_aload_n k84_0 rfl rfl ?_
  refine wp_aload_n k84_1 rfl rfl ?_
  refine wcvI (st2 := []) k84_2 (cw83 (S := S) h0 h1) (by decide) rfl rfl rfl rfl (by decide) h0.1.o (by decide) (fun x2 W2 g2 => ?_)
  have f2 := FR.t f0 g2
  refine wp_istore_n (L1 := [_, _, _]) k84_5 rfl rfl ?_
  refine wp_iload_n k84_6 rfl rfl ?_
  refine wp_iconst (-1) k84_7 (by decide) ?_
  refine wp_if_icmp_eq k84_8 (fun c8 => ?_) (fun c8 => ?_)
  · exact j15 _ _ f2
  · refine wp_aload_n k84_11 rfl rfl ?_
    refine wcvN (st2 := []) k84_12 (cw74 (S := S) h0) (by decide) rfl rfl rfl rfl (by decide) h0.1.o (by decide) (fun W12 g12 => ?_)
    have f12 := FR.t f2 g12
    exact j15 _ _ f12
theorem cw8 {S : ww_S} {sh : List mm_C} {V : hV} {p0 : Nat} (h0 : kForm sh p0) : EVQ S 1 8 [.ref p0] (hH sh V) (wN sh V) := by
  have f0 := FR.r sh V
  refine ev_of P8 rfl ?_
  refine wp_aload_n k8_0 rfl rfl ?_
  refine wp_iconst 0 k8_1 (by decide) ?_
  refine wq_putI k8_2 h0.1 rfl rfl rfl (Or.inr (by decide)) rfl (fun W2 g2 => ?_)
  have f2 := FR.t f0 g2
  exact wp_retN k8_5 rfl ⟨_, rfl, rfl, f2⟩
theorem cw9 {S : ww_S} {sh : List mm_C} {V : hV} {p0 : Nat} (h0 : kForm sh p0) {p1 : Int32} {p2 : Int32} : EVQ S 2 9 [.ref p0, .int p1, .int p2] (hH sh V) (wN sh V) := by
  have f0 := FR.r sh V
  refine ev_of P9 rfl ?_
  refine wp_aload_n k9_0 rfl rfl ?_
  refine wq_getR k9_1 h0.1 rfl ?_
  refine wp_aload_n k9_4 rfl rfl ?_
  refine wq_getI k9_5 h0.1 rfl ?_
  refine wp_iload_n k9_8 rfl rfl ?_
  refine wcsN (st2 := []) k9_9 (cw157 (S := S) h0.2.1 (by decide)) (by decide) rfl rfl rfl (by decide) (fun W9 g9 => ?_)
  have f9 := FR.t f0 g9
  refine wp_aload_n k9_12 rfl rfl ?_
  refine wq_getR k9_13 h0.1 rfl ?_
  refine wp_aload_n k9_16 rfl rfl ?_
  refine wq_getI k9_17 h0.1 rfl ?_
  refine wp_iload_n k9_20 rfl rfl ?_
  refine wcsN (st2 := []) k9_21 (cw157 (S := S) h0.2.2.1 (by decide)) (by decide) rfl rfl rfl (by decide) (fun W21 g21 => ?_)
  have f21 := FR.t f9 g21
  refine wp_aload_n k9_24 rfl rfl ?_
  refine wp_aload_n k9_25 rfl rfl ?_
  refine wq_getI k9_26 h0.1 rfl ?_
  refine wp_iconst 1 k9_29 (by decide) ?_
  refine wp_iadd k9_30 ?_
  refine wp_bipush 60 k9_31 (by decide) ?_
  refine wp_min k9_33 rfl ?_
  refine wq_putI k9_36 h0.1 rfl rfl rfl (Or.inr (by decide)) rfl (fun W36 g36 => ?_)
  have f36 := FR.t f21 g36
  exact wp_retN k9_39 rfl ⟨_, rfl, rfl, f36⟩
theorem cw10 {S : ww_S} {sh : List mm_C} {V : hV} {p0 : Nat} (h0 : kForm sh p0) {p1 : Nat} (h1 : kForm sh p1) : EVQ S 2 10 [.ref p0, .ref p1] (hH sh V) (wN sh V) := by
  have f0 := FR.r sh V
  refine ev_of P10 rfl ?_
  refine wp_aload_n k10_0 rfl rfl ?_
  refine wq_getR k10_1 h1.1 rfl ?_
  refine wp_aload_n k10_4 rfl rfl ?_
  refine wq_getR k10_5 h0.1 rfl ?_
  refine wcsN (st2 := []) k10_8 (cw158 (S := S) h1.2.1 (by decide) h0.2.1 (by decide)) (by decide) rfl rfl rfl (by decide) (fun W8 g8 => ?_)
  have f8 := FR.t f0 g8
  refine wp_aload_n k10_11 rfl rfl ?_
  refine wq_getR k10_12 h1.1 rfl ?_
  refine wp_aload_n k10_15 rfl rfl ?_
  refine wq_getR k10_16 h0.1 rfl ?_
  refine wcsN (st2 := []) k10_19 (cw158 (S := S) h1.2.2.1 (by decide) h0.2.2.1 (by decide)) (by decide) rfl rfl rfl (by decide) (fun W19 g19 => ?_)
  have f19 := FR.t f8 g19
  refine wp_aload_n k10_22 rfl rfl ?_
  refine wp_aload_n k10_23 rfl rfl ?_
  refine wq_getI k10_24 h1.1 rfl ?_
  refine wq_putI k10_27 h0.1 rfl rfl rfl (Or.inr (by decide)) rfl (fun W27 g27 => ?_)
  have f27 := FR.t f19 g27
  exact wp_retN k10_30 rfl ⟨_, rfl, rfl, f27⟩
theorem cw27 {S : ww_S} {sh : List mm_C} {V : hV} {p0 : Nat} (h0 : kKnow sh p0) {p1 : Nat} (h1 : kKnow sh p1) : EVQ S 2 27 [.ref p0, .ref p1] (hH sh V) (wN sh V) := by
  have f0 := FR.r sh V
  refine ev_of P27 rfl ?_
  refine wp_aload_n k27_0 rfl rfl ?_
  refine wq_getR k27_1 h1.1 rfl ?_
  refine wp_aload_n k27_4 rfl rfl ?_
  refine wq_getR k27_5 h0.1 rfl ?_
  refine wcsN (st2 := []) k27_8 (cw158 (S := S) h1.2 (by decide) h0.2 (by decide)) (by decide) rfl rfl rfl (by decide) (fun W8 g8 => ?_)
  have f8 := FR.t f0 g8
  refine wp_aload_n k27_11 rfl rfl ?_
  refine wp_aload_n k27_12 rfl rfl ?_
  refine wq_getI k27_13 h1.1 rfl ?_
  refine wq_putI k27_16 h0.1 rfl rfl rfl (Or.inr (by decide)) rfl (fun W16 g16 => ?_)
  have f16 := FR.t f8 g16
  refine wp_aload_n k27_19 rfl rfl ?_
  refine wp_aload_n k27_20 rfl rfl ?_
  refine wq_getI k27_21 h1.1 rfl ?_
  refine wq_putI k27_24 h0.1 rfl rfl rfl (Or.inr (by decide)) rfl (fun W24 g24 => ?_)
  have f24 := FR.t f16 g24
  exact wp_retN k27_27 rfl ⟨_, rfl, rfl, f24⟩
theorem cw30 {S : ww_S} {sh : List mm_C} {V : hV} {p0 : Nat} (h0 : kKnow sh p0) {p1 : Int32} {p2 : Int32} : EVQ S 2 30 [.ref p0, .int p1, .int p2] (hH sh V) (wZ sh V) := by
  have f0 := FR.r sh V
  have j30 : ∀ (bs0_30 : Bool) (W30 : hV), FR sh V W30 → WP S 1 mm_m30 30 [some (.ref p0), some (.int p1), some (.int p2)] [.int (bI bs0_30)] (hH sh W30) (wZ sh V) := by
    intro bs0_30 W30 f30
    exact wp_retZ (b := bs0_30) k30_30 rfl ⟨bs0_30, _, rfl, rfl, f30⟩
  have j29 : ∀  (W29 : hV), FR sh V W29 → WP S 1 mm_m30 29 [some (.ref p0), some (.int p1), some (.int p2)] [] (hH sh W29) (wZ sh V) := by
    intro W29 f29
    refine wp_iconst 0 k30_29 (by decide) ?_
    exact j30 false _ f29
  refine ev_of P30 rfl ?_
  refine wp_aload_n k30_0 rfl rfl ?_
  refine wq_getI k30_1 h0.1 rfl ?_
  refine wp_iload_n k30_4 rfl rfl ?_
  refine wcsZ (st2 := []) k30_5 (cw159 (S := S)) (by decide) rfl rfl rfl (by decide) (fun b5 W5 g5 => ?_)
  have f5 := FR.t f0 g5
  refine wp_if_eq k30_8 (fun c8 => ?_) (fun c8 => ?_)
  · exact j29  _ f5
  · refine wp_aload_n k30_11 rfl rfl ?_
    refine wp_iload_n k30_12 rfl rfl ?_
    refine wp_iload_n k30_13 rfl rfl ?_
    refine wcvI (st2 := []) k30_14 (cw29 (S := S) h0) (by decide) rfl rfl rfl rfl h0.1.h h0.1.o (by decide) (fun x14 W14 g14 => ?_)
    have f14 := FR.t f5 g14
    refine wp_iload_n k30_17 rfl rfl ?_
    refine wcsI (st2 := [_]) k30_18 (cw161 (S := S)) (by decide) rfl rfl rfl (by decide) (fun x18 W18 g18 => ?_)
    have f18 := FR.t f14 g18
    refine wp_iand k30_21 ?_
    refine wp_if_ne k30_22 (fun c22 => ?_) (fun c22 => ?_)
    · exact j29  _ f18
    · refine wp_iconst 1 k30_25 (by decide) ?_
      refine wp_goto k30_26 ?_
      exact j30 true _ f18
theorem cw32 {S : ww_S} {sh : List mm_C} {V : hV} {p0 : Nat} (h0 : kKnow sh p0) {p1 : Int32} : EVQ S 2 32 [.ref p0, .int p1] (hH sh V) (wI sh V) := by
  have f0 := FR.r sh V
  have j4 : ∀ (m4 : Nat) (x2_4 : Int32) (x3_4 : Int32) (y4_4 : Option Value) (W4 : hV), mea x3_4 < m4 → FR sh V W4 → WP S 1 mm_m32 4 [some (.ref p0), some (.int p1), some (.int x2_4), some (.int x3_4), y4_4] [] (hH sh W4) (wI sh V) := by
    intro m4
    induction m4 with
    | zero =>
      intro x2_4 x3_4 y4_4 W4 hm4 f4
      exact absurd hm4 (Nat.not_lt_zero _)
    | succ m4 ih4 =>
      intro x2_4 x3_4 y4_4 W4 hm4 f4
      have j47 : ∀ (x2_47 : Int32) (x4_47 : Int32) (W47 : hV), mea (x3_4 + 1) < m4 → FR sh V W47 → WP S 1 mm_m32 47 [some (.ref p0), some (.int p1), some (.int x2_47), some (.int x3_4), some (.int x4_47)] [] (hH sh W47) (wI sh V) := by
        intro x2_47 x4_47 W47 hd4 f47
        refine wp_iinc (L1 := [_, _, _, _, _]) 1 k32_47 rfl (by decide) rfl ?_
        refine wp_goto k32_50 ?_
        exact ih4 _ _ _ _ hd4 f47
      have j13 : ∀ (m13 : Nat) (x2_13 : Int32) (x4_13 : Int32) (W13 : hV), mea (x3_4 + 1) < m4 → mea x4_13 < m13 → FR sh V W13 → WP S 1 mm_m32 13 [some (.ref p0), some (.int p1), some (.int x2_13), some (.int x3_4), some (.int x4_13)] [] (hH sh W13) (wI sh V) := by
        intro m13
        induction m13 with
        | zero =>
          intro x2_13 x4_13 W13 hd4 hm13 f13
          exact absurd hm13 (Nat.not_lt_zero _)
        | succ m13 ih13 =>
          intro x2_13 x4_13 W13 hd4 hm13 f13
          refine wp_iload k32_13 rfl rfl ?_
          refine wp_aload_n k32_15 rfl rfl ?_
          refine wq_getI k32_16 h0.1 rfl ?_
          refine wp_if_icmp_ge k32_19 (fun c19 => ?_) (fun c19 => ?_)
          · exact j47 _ _ _ hd4 f13
          · have hd13 : mea (x4_13 + 1) < m13 := Nat.lt_of_lt_of_le (mea_s c19) (Nat.le_of_lt_succ hm13)
            refine wp_iload_n k32_22 rfl rfl ?_
            refine wp_iload_n k32_23 rfl rfl ?_
            refine wp_iushr k32_24 ?_
            refine wp_iconst 1 k32_25 (by decide) ?_
            refine wp_iand k32_26 ?_
            refine wp_iconst 1 k32_27 (by decide) ?_
            refine wp_if_icmp_ne k32_28 (fun c28 => ?_) (fun c28 => ?_)
            · exact j47 _ _ _ hd4 f13
            · refine wp_iload_n k32_31 rfl rfl ?_
              refine wp_aload_n k32_32 rfl rfl ?_
              refine wp_iload k32_33 rfl rfl ?_
              refine wp_iload_n k32_35 rfl rfl ?_
              refine wcvI (st2 := [_]) k32_36 (cw29 (S := S) h0) (by decide) rfl rfl rfl rfl h0.1.h h0.1.o (by decide) (fun x36 W36 g36 => ?_)
              have f36 := FR.t f13 g36
              refine wp_ior k32_39 ?_
              refine wp_istore_n (L1 := [_, _, _, _, _]) k32_40 rfl rfl ?_
              refine wp_iinc (L1 := [_, _, _, _, _]) 1 k32_41 rfl (by decide) rfl ?_
              refine wp_goto k32_44 ?_
              exact ih13 _ _ _ hd4 hd13 f36
      refine wp_iload_n k32_4 rfl rfl ?_
      refine wp_bipush 32 k32_5 (by decide) ?_
      refine wp_if_icmp_ge k32_7 (fun c7 => ?_) (fun c7 => ?_)
      · refine wp_iload_n k32_53 rfl rfl ?_
        exact wp_retI k32_54 rfl ⟨_, _, rfl, rfl, f4⟩
      · have hd4 : mea (x3_4 + 1) < m4 := Nat.lt_of_lt_of_le (mea_s c7) (Nat.le_of_lt_succ hm4)
        refine wp_iconst 0 k32_10 (by decide) ?_
        refine wp_istore (L1 := [_, _, _, _, _]) k32_11 rfl rfl ?_
        exact j13 _ _ _ _ hd4 (Nat.lt_succ_self _) f4
  refine ev_of P32 rfl ?_
  refine wp_iconst 0 k32_0 (by decide) ?_
  refine wp_istore_n (L1 := [_, _, _, _, _]) k32_1 rfl rfl ?_
  refine wp_iconst 0 k32_2 (by decide) ?_
  refine wp_istore_n (L1 := [_, _, _, _, _]) k32_3 rfl rfl ?_
  exact j4 _ _ _ _ _ (Nat.lt_succ_self _) f0
theorem cw33 {S : ww_S} {sh : List mm_C} {V : hV} {p0 : Nat} (h0 : kKnow sh p0) {p1 : Int32} : EVQ S 3 33 [.ref p0, .int p1] (hH sh V) (wI sh V) := by
  have f0 := FR.r sh V
  have j43 : ∀ (x2_43 : Int32) (x3_43 : Int32) (x4_43 : Int32) (W43 : hV), FR sh V W43 → WP S 2 mm_m33 43 [some (.ref p0), some (.int p1), some (.int x2_43), some (.int x3_43), some (.int x4_43)] [] (hH sh W43) (wI sh V) := by
    intro x2_43 x3_43 x4_43 W43 f43
    refine wp_iload_n k33_43 rfl rfl ?_
    exact wp_retI k33_44 rfl ⟨_, _, rfl, rfl, f43⟩
  have j12 : ∀ (m12 : Nat) (x2_12 : Int32) (x3_12 : Int32) (x4_12 : Int32) (W12 : hV), mea x4_12 < m12 → FR sh V W12 → WP S 2 mm_m33 12 [some (.ref p0), some (.int p1), some (.int x2_12), some (.int x3_12), some (.int x4_12)] [] (hH sh W12) (wI sh V) := by
    intro m12
    induction m12 with
    | zero =>
      intro x2_12 x3_12 x4_12 W12 hm12 f12
      exact absurd hm12 (Nat.not_lt_zero _)
    | succ m12 ih12 =>
      intro x2_12 x3_12 x4_12 W12 hm12 f12
      refine wp_iload k33_12 rfl rfl ?_
      refine wp_bipush 32 k33_14 (by decide) ?_
      refine wp_if_icmp_ge k33_16 (fun c16 => ?_) (fun c16 => ?_)
      · exact j43 _ _ _ _ f12
      · have hd12 : mea (x4_12 + 1) < m12 := Nat.lt_of_lt_of_le (mea_s c16) (Nat.le_of_lt_succ hm12)
        refine wp_iload_n k33_19 rfl rfl ?_
        refine wp_if_eq k33_20 (fun c20 => ?_) (fun c20 => ?_)
        · exact j43 _ _ _ _ f12
        · refine wp_aload_n k33_23 rfl rfl ?_
          refine wp_iload_n k33_24 rfl rfl ?_
          refine wcvI (st2 := []) k33_25 (cw32 (S := S) h0) (by decide) rfl rfl rfl rfl h0.1.h h0.1.o (by decide) (fun x25 W25 g25 => ?_)
          have f25 := FR.t f12 g25
          refine wp_iload_n k33_28 rfl rfl ?_
          refine wp_iconst (-1) k33_29 (by decide) ?_
          refine wp_ixor k33_30 ?_
          refine wp_iand k33_31 ?_
          refine wp_istore_n (L1 := [_, _, _, _, _]) k33_32 rfl rfl ?_
          refine wp_iload_n k33_33 rfl rfl ?_
          refine wp_iload_n k33_34 rfl rfl ?_
          refine wp_ior k33_35 ?_
          refine wp_istore_n (L1 := [_, _, _, _, _]) k33_36 rfl rfl ?_
          refine wp_iinc (L1 := [_, _, _, _, _]) 1 k33_37 rfl (by decide) rfl ?_
          refine wp_goto k33_40 ?_
          exact ih12 _ _ _ _ hd12 f25
  refine ev_of P33 rfl ?_
  refine wp_aload_n k33_0 rfl rfl ?_
  refine wq_getI k33_1 h0.1 rfl ?_
  refine wp_iload_n k33_4 rfl rfl ?_
  refine wp_iand k33_5 ?_
  refine wp_istore_n (L1 := [_, _, _, _, _]) k33_6 rfl rfl ?_
  refine wp_iload_n k33_7 rfl rfl ?_
  refine wp_istore_n (L1 := [_, _, _, _, _]) k33_8 rfl rfl ?_
  refine wp_iconst 0 k33_9 (by decide) ?_
  refine wp_istore (L1 := [_, _, _, _, _]) k33_10 rfl rfl ?_
  exact j12 _ _ _ _ _ (Nat.lt_succ_self _) f0
theorem cw34 {S : ww_S} {sh : List mm_C} {V : hV} {p0 : Nat} (h0 : kKnow sh p0) {p1 : Int32} {p2 : Int32} : EVQ S 3 34 [.ref p0, .int p1, .int p2] (hH sh V) (wI sh V) := by
  have f0 := FR.r sh V
  have j13 : ∀ (m13 : Nat) (x3_13 : Int32) (x4_13 : Int32) (W13 : hV), mea x4_13 < m13 → FR sh V W13 → WP S 2 mm_m34 13 [some (.ref p0), some (.int p1), some (.int p2), some (.int x3_13), some (.int x4_13)] [] (hH sh W13) (wI sh V) := by
    intro m13
    induction m13 with
    | zero =>
      intro x3_13 x4_13 W13 hm13 f13
      exact absurd hm13 (Nat.not_lt_zero _)
    | succ m13 ih13 =>
      intro x3_13 x4_13 W13 hm13 f13
      refine wp_iload k34_13 rfl rfl ?_
      refine wp_bipush 32 k34_15 (by decide) ?_
      refine wp_if_icmp_ge k34_17 (fun c17 => ?_) (fun c17 => ?_)
      · refine wp_iconst (-1) k34_45 (by decide) ?_
        exact wp_retI k34_46 rfl ⟨_, _, rfl, rfl, f13⟩
      · have hd13 : mea (x4_13 + 1) < m13 := Nat.lt_of_lt_of_le (mea_s c17) (Nat.le_of_lt_succ hm13)
        refine wp_iload_n k34_20 rfl rfl ?_
        refine wp_iload_n k34_21 rfl rfl ?_
        refine wcsZ (st2 := []) k34_22 (cw159 (S := S)) (by decide) rfl rfl rfl (by decide) (fun b22 W22 g22 => ?_)
        have f22 := FR.t f13 g22
        refine wp_if_eq k34_25 (fun c25 => ?_) (fun c25 => ?_)
        · refine wp_iload_n k34_31 rfl rfl ?_
          refine wp_aload_n k34_32 rfl rfl ?_
          refine wp_iload_n k34_33 rfl rfl ?_
          refine wcvI (st2 := [_]) k34_34 (cw32 (S := S) h0) (by decide) rfl rfl rfl rfl h0.1.h h0.1.o (by decide) (fun x34 W34 g34 => ?_)
          have f34 := FR.t f22 g34
          refine wp_ior k34_37 ?_
          refine wp_istore_n (L1 := [_, _, _, _, _]) k34_38 rfl rfl ?_
          refine wp_iinc (L1 := [_, _, _, _, _]) 1 k34_39 rfl (by decide) rfl ?_
          refine wp_goto k34_42 ?_
          exact ih13 _ _ _ hd13 f34
        · refine wp_iload k34_28 rfl rfl ?_
          exact wp_retI k34_30 rfl ⟨_, _, rfl, rfl, f22⟩
  refine ev_of P34 rfl ?_
  refine wp_aload_n k34_0 rfl rfl ?_
  refine wq_getI k34_1 h0.1 rfl ?_
  refine wp_iload_n k34_4 rfl rfl ?_
  refine wcsI (st2 := [_]) k34_5 (cw160 (S := S)) (by decide) rfl rfl rfl (by decide) (fun x5 W5 g5 => ?_)
  have f5 := FR.t f0 g5
  refine wp_iand k34_8 ?_
  refine wp_istore_n (L1 := [_, _, _, _, _]) k34_9 rfl rfl ?_
  refine wp_iconst 0 k34_10 (by decide) ?_
  refine wp_istore (L1 := [_, _, _, _, _]) k34_11 rfl rfl ?_
  exact j13 _ _ _ _ (Nat.lt_succ_self _) f5
theorem cw35 {S : ww_S} {sh : List mm_C} {V : hV} {p0 : Nat} (h0 : kKnow sh p0) {p1 : Int32} {p2 : Int32} : EVQ S 2 35 [.ref p0, .int p1, .int p2] (hH sh V) (wI sh V) := by
  have f0 := FR.r sh V
  have j5 : ∀ (m5 : Nat) (x3_5 : Int32) (x4_5 : Int32) (W5 : hV), mea x4_5 < m5 → FR sh V W5 → WP S 1 mm_m35 5 [some (.ref p0), some (.int p1), some (.int p2), some (.int x3_5), some (.int x4_5)] [] (hH sh W5) (wI sh V) := by
    intro m5
    induction m5 with
    | zero =>
      intro x3_5 x4_5 W5 hm5 f5
      exact absurd hm5 (Nat.not_lt_zero _)
    | succ m5 ih5 =>
      intro x3_5 x4_5 W5 hm5 f5
      have j46 : ∀ (x3_46 : Int32) (W46 : hV), mea (x4_5 + 1) < m5 → FR sh V W46 → WP S 1 mm_m35 46 [some (.ref p0), some (.int p1), some (.int p2), some (.int x3_46), some (.int x4_5)] [] (hH sh W46) (wI sh V) := by
        intro x3_46 W46 hd5 f46
        refine wp_iinc (L1 := [_, _, _, _, _]) 1 k35_46 rfl (by decide) rfl ?_
        refine wp_goto k35_49 ?_
        exact ih5 _ _ _ hd5 f46
      refine wp_iload k35_5 rfl rfl ?_
      refine wp_bipush 32 k35_7 (by decide) ?_
      refine wp_if_icmp_ge k35_9 (fun c9 => ?_) (fun c9 => ?_)
      · refine wp_iload_n k35_52 rfl rfl ?_
        exact wp_retI k35_53 rfl ⟨_, _, rfl, rfl, f5⟩
      · have hd5 : mea (x4_5 + 1) < m5 := Nat.lt_of_lt_of_le (mea_s c9) (Nat.le_of_lt_succ hm5)
        refine wp_aload_n k35_12 rfl rfl ?_
        refine wq_getI k35_13 h0.1 rfl ?_
        refine wp_iload k35_16 rfl rfl ?_
        refine wcsZ (st2 := []) k35_18 (cw159 (S := S)) (by decide) rfl rfl rfl (by decide) (fun b18 W18 g18 => ?_)
        have f18 := FR.t f5 g18
        refine wp_if_eq k35_21 (fun c21 => ?_) (fun c21 => ?_)
        · exact j46 _ _ hd5 f18
        · refine wp_aload_n k35_24 rfl rfl ?_
          refine wp_iload_n k35_25 rfl rfl ?_
          refine wp_iload k35_26 rfl rfl ?_
          refine wcvI (st2 := []) k35_28 (cw29 (S := S) h0) (by decide) rfl rfl rfl rfl h0.1.h h0.1.o (by decide) (fun x28 W28 g28 => ?_)
          have f28 := FR.t f18 g28
          refine wp_iload_n k35_31 rfl rfl ?_
          refine wp_iconst (-1) k35_32 (by decide) ?_
          refine wp_ixor k35_33 ?_
          refine wp_iand k35_34 ?_
          refine wp_if_ne k35_35 (fun c35 => ?_) (fun c35 => ?_)
          · exact j46 _ _ hd5 f28
          · refine wp_iload_n k35_38 rfl rfl ?_
            refine wp_iload k35_39 rfl rfl ?_
            refine wcsI (st2 := [_]) k35_41 (cw160 (S := S)) (by decide) rfl rfl rfl (by decide) (fun x41 W41 g41 => ?_)
            have f41 := FR.t f28 g41
            refine wp_ior k35_44 ?_
            refine wp_istore_n (L1 := [_, _, _, _, _]) k35_45 rfl rfl ?_
            exact j46 _ _ hd5 f41
  refine ev_of P35 rfl ?_
  refine wp_iconst 0 k35_0 (by decide) ?_
  refine wp_istore_n (L1 := [_, _, _, _, _]) k35_1 rfl rfl ?_
  refine wp_iconst 0 k35_2 (by decide) ?_
  refine wp_istore (L1 := [_, _, _, _, _]) k35_3 rfl rfl ?_
  exact j5 _ _ _ _ (Nat.lt_succ_self _) f0
theorem cw36 {S : ww_S} {sh : List mm_C} {V : hV} {p0 : Nat} (h0 : kKnow sh p0) {p1 : Int32} : EVQ S 3 36 [.ref p0, .int p1] (hH sh V) (wI sh V) := by
  have f0 := FR.r sh V
  have j7 : ∀ (m7 : Nat) (x2_7 : Int32) (x3_7 : Int32) (W7 : hV), mea x3_7 < m7 → FR sh V W7 → WP S 2 mm_m36 7 [some (.ref p0), some (.int p1), some (.int x2_7), some (.int x3_7)] [] (hH sh W7) (wI sh V) := by
    intro m7
    induction m7 with
    | zero =>
      intro x2_7 x3_7 W7 hm7 f7
      exact absurd hm7 (Nat.not_lt_zero _)
    | succ m7 ih7 =>
      intro x2_7 x3_7 W7 hm7 f7
      refine wp_iload_n k36_7 rfl rfl ?_
      refine wp_aload_n k36_8 rfl rfl ?_
      refine wq_getI k36_9 h0.1 rfl ?_
      refine wp_if_icmp_ge k36_12 (fun c12 => ?_) (fun c12 => ?_)
      · refine wp_iload_n k36_30 rfl rfl ?_
        exact wp_retI k36_31 rfl ⟨_, _, rfl, rfl, f7⟩
      · have hd7 : mea (x3_7 + 1) < m7 := Nat.lt_of_lt_of_le (mea_s c12) (Nat.le_of_lt_succ hm7)
        refine wp_iload_n k36_15 rfl rfl ?_
        refine wp_aload_n k36_16 rfl rfl ?_
        refine wp_iload_n k36_17 rfl rfl ?_
        refine wp_iload_n k36_18 rfl rfl ?_
        refine wcvI (st2 := [_]) k36_19 (cw35 (S := S) h0) (by decide) rfl rfl rfl rfl h0.1.h h0.1.o (by decide) (fun x19 W19 g19 => ?_)
        have f19 := FR.t f7 g19
        refine wp_iand k36_22 ?_
        refine wp_istore_n (L1 := [_, _, _, _]) k36_23 rfl rfl ?_
        refine wp_iinc (L1 := [_, _, _, _]) 1 k36_24 rfl (by decide) rfl ?_
        refine wp_goto k36_27 ?_
        exact ih7 _ _ _ hd7 f19
  refine ev_of P36 rfl ?_
  refine wp_aload_n k36_0 rfl rfl ?_
  refine wq_getI k36_1 h0.1 rfl ?_
  refine wp_istore_n (L1 := [_, _, _, _]) k36_4 rfl rfl ?_
  refine wp_iconst 0 k36_5 (by decide) ?_
  refine wp_istore_n (L1 := [_, _, _, _]) k36_6 rfl rfl ?_
  exact j7 _ _ _ _ (Nat.lt_succ_self _) f0
theorem cw37 {S : ww_S} {sh : List mm_C} {V : hV} {p0 : Nat} (h0 : kKnow sh p0) {p1 : Int32} {p2 : Int32} {p3 : Int32} : EVQ S 4 37 [.ref p0, .int p1, .int p2, .int p3] (hH sh V) (wI sh V) := by
  have f0 := FR.r sh V
  refine ev_of P37 rfl ?_
  refine wp_iload_n k37_0 rfl rfl ?_
  refine wp_tsw k37_1 (fun i9 t9 g9 e9 => ?_) (fun c1 => ?_) (by decide)
  · have b9 : i9 < 4 := (List.getElem?_eq_some_iff.mp g9).1
    obtain rfl | rfl | rfl | rfl : i9 = 0 ∨ i9 = 1 ∨ i9 = 2 ∨ i9 = 3 := by omega
    · cases g9
      refine wp_aload_n k37_32 rfl rfl ?_
      refine wq_getI k37_33 h0.1 rfl ?_
      refine wp_iload_n k37_36 rfl rfl ?_
      refine wp_iconst (-1) k37_37 (by decide) ?_
      refine wp_ixor k37_38 ?_
      refine wp_iand k37_39 ?_
      exact wp_retI k37_40 rfl ⟨_, _, rfl, rfl, f0⟩
    · cases g9
      refine wp_aload_n k37_41 rfl rfl ?_
      refine wp_iload_n k37_42 rfl rfl ?_
      refine wp_iload_n k37_43 rfl rfl ?_
      refine wcvI (st2 := []) k37_44 (cw35 (S := S) h0) (by decide) rfl rfl rfl rfl h0.1.h h0.1.o (by decide) (fun x44 W44 g44 => ?_)
      have f44 := FR.t f0 g44
      exact wp_retI k37_47 rfl ⟨_, _, rfl, rfl, f44⟩
    · cases g9
      refine wp_aload_n k37_48 rfl rfl ?_
      refine wq_getI k37_49 h0.1 rfl ?_
      refine wp_aload_n k37_52 rfl rfl ?_
      refine wp_iload_n k37_53 rfl rfl ?_
      refine wp_iload_n k37_54 rfl rfl ?_
      refine wp_iconst (-1) k37_55 (by decide) ?_
      refine wp_ixor k37_56 ?_
      refine wcvI (st2 := [_]) k37_57 (cw35 (S := S) h0) (by decide) rfl rfl rfl rfl h0.1.h h0.1.o (by decide) (fun x57 W57 g57 => ?_)
      have f57 := FR.t f0 g57
      refine wp_iconst (-1) k37_60 (by decide) ?_
      refine wp_ixor k37_61 ?_
      refine wp_iand k37_62 ?_
      exact wp_retI k37_63 rfl ⟨_, _, rfl, rfl, f57⟩
    · cases g9
      refine wp_aload_n k37_64 rfl rfl ?_
      refine wp_iload_n k37_65 rfl rfl ?_
      refine wcvI (st2 := []) k37_66 (cw36 (S := S) h0) (by decide) rfl rfl rfl rfl h0.1.h h0.1.o (by decide) (fun x66 W66 g66 => ?_)
      have f66 := FR.t f0 g66
      exact wp_retI k37_69 rfl ⟨_, _, rfl, rfl, f66⟩
  · refine wp_aload_n k37_70 rfl rfl ?_
    refine wq_getI k37_71 h0.1 rfl ?_
    refine wp_aload_n k37_74 rfl rfl ?_
    refine wp_iload_n k37_75 rfl rfl ?_
    refine wp_iconst (-1) k37_76 (by decide) ?_
    refine wp_ixor k37_77 ?_
    refine wcvI (st2 := [_]) k37_78 (cw33 (S := S) h0) (by decide) rfl rfl rfl rfl h0.1.h h0.1.o (by decide) (fun x78 W78 g78 => ?_)
    have f78 := FR.t f0 g78
    refine wp_iconst (-1) k37_81 (by decide) ?_
    refine wp_ixor k37_82 ?_
    refine wp_iand k37_83 ?_
    exact wp_retI k37_84 rfl ⟨_, _, rfl, rfl, f78⟩
theorem cw38 {S : ww_S} {sh : List mm_C} {V : hV} {p0 : Nat} (h0 : kKnow sh p0) {p1 : Int32} {p2 : Int32} : EVQ S 2 38 [.ref p0, .int p1, .int p2] (hH sh V) (wI sh V) := by
  have f0 := FR.r sh V
  have j5 : ∀ (m5 : Nat) (x3_5 : Int32) (x4_5 : Int32) (W5 : hV), mea x4_5 < m5 → FR sh V W5 → WP S 1 mm_m38 5 [some (.ref p0), some (.int p1), some (.int p2), some (.int x3_5), some (.int x4_5)] [] (hH sh W5) (wI sh V) := by
    intro m5
    induction m5 with
    | zero =>
      intro x3_5 x4_5 W5 hm5 f5
      exact absurd hm5 (Nat.not_lt_zero _)
    | succ m5 ih5 =>
      intro x3_5 x4_5 W5 hm5 f5
      have j36 : ∀ (x3_36 : Int32) (W36 : hV), mea (x4_5 + 1) < m5 → FR sh V W36 → WP S 1 mm_m38 36 [some (.ref p0), some (.int p1), some (.int p2), some (.int x3_36), some (.int x4_5)] [] (hH sh W36) (wI sh V) := by
        intro x3_36 W36 hd5 f36
        refine wp_iinc (L1 := [_, _, _, _, _]) 1 k38_36 rfl (by decide) rfl ?_
        refine wp_goto k38_39 ?_
        exact ih5 _ _ _ hd5 f36
      refine wp_iload k38_5 rfl rfl ?_
      refine wp_aload_n k38_7 rfl rfl ?_
      refine wq_getI k38_8 h0.1 rfl ?_
      refine wp_if_icmp_ge k38_11 (fun c11 => ?_) (fun c11 => ?_)
      · refine wp_iload_n k38_42 rfl rfl ?_
        exact wp_retI k38_43 rfl ⟨_, _, rfl, rfl, f5⟩
      · have hd5 : mea (x4_5 + 1) < m5 := Nat.lt_of_lt_of_le (mea_s c11) (Nat.le_of_lt_succ hm5)
        refine wp_aload_n k38_14 rfl rfl ?_
        refine wp_iload k38_15 rfl rfl ?_
        refine wp_iload_n k38_17 rfl rfl ?_
        refine wcvI (st2 := []) k38_18 (cw29 (S := S) h0) (by decide) rfl rfl rfl rfl h0.1.h h0.1.o (by decide) (fun x18 W18 g18 => ?_)
        have f18 := FR.t f5 g18
        refine wp_iload_n k38_21 rfl rfl ?_
        refine wp_iconst (-1) k38_22 (by decide) ?_
        refine wp_ixor k38_23 ?_
        refine wp_iand k38_24 ?_
        refine wp_if_ne k38_25 (fun c25 => ?_) (fun c25 => ?_)
        · exact j36 _ _ hd5 f18
        · refine wp_iload_n k38_28 rfl rfl ?_
          refine wp_iload k38_29 rfl rfl ?_
          refine wcsI (st2 := [_]) k38_31 (cw160 (S := S)) (by decide) rfl rfl rfl (by decide) (fun x31 W31 g31 => ?_)
          have f31 := FR.t f18 g31
          refine wp_ior k38_34 ?_
          refine wp_istore_n (L1 := [_, _, _, _, _]) k38_35 rfl rfl ?_
          exact j36 _ _ hd5 f31
  refine ev_of P38 rfl ?_
  refine wp_iconst 0 k38_0 (by decide) ?_
  refine wp_istore_n (L1 := [_, _, _, _, _]) k38_1 rfl rfl ?_
  refine wp_iconst 0 k38_2 (by decide) ?_
  refine wp_istore (L1 := [_, _, _, _, _]) k38_3 rfl rfl ?_
  exact j5 _ _ _ _ (Nat.lt_succ_self _) f0
theorem cw39 {S : ww_S} {sh : List mm_C} {V : hV} {p0 : Nat} (h0 : kKnow sh p0) {p1 : Int32} {p2 : Int32} : EVQ S 3 39 [.ref p0, .int p1, .int p2] (hH sh V) (wI sh V) := by
  have f0 := FR.r sh V
  refine ev_of P39 rfl ?_
  refine wp_aload_n k39_0 rfl rfl ?_
  refine wp_iload_n k39_1 rfl rfl ?_
  refine wp_iload_n k39_2 rfl rfl ?_
  refine wcvI (st2 := []) k39_3 (cw38 (S := S) h0) (by decide) rfl rfl rfl rfl h0.1.h h0.1.o (by decide) (fun x3 W3 g3 => ?_)
  have f3 := FR.t f0 g3
  refine wp_aload_n k39_6 rfl rfl ?_
  refine wp_iload_n k39_7 rfl rfl ?_
  refine wp_iload_n k39_8 rfl rfl ?_
  refine wp_iconst (-1) k39_9 (by decide) ?_
  refine wp_ixor k39_10 ?_
  refine wcvI (st2 := [_]) k39_11 (cw38 (S := S) h0) (by decide) rfl rfl rfl rfl h0.1.h h0.1.o (by decide) (fun x11 W11 g11 => ?_)
  have f11 := FR.t f3 g11
  refine wp_ior k39_14 ?_
  exact wp_retI k39_15 rfl ⟨_, _, rfl, rfl, f11⟩
theorem cw40 {S : ww_S} {sh : List mm_C} {V : hV} {p0 : Nat} (h0 : kKnow sh p0) {p1 : Int32} {p2 : Int32} : EVQ S 4 40 [.ref p0, .int p1, .int p2] (hH sh V) (wI sh V) := by
  have f0 := FR.r sh V
  have j5 : ∀ (m5 : Nat) (x3_5 : Int32) (x4_5 : Int32) (W5 : hV), mea x4_5 < m5 → FR sh V W5 → WP S 3 mm_m40 5 [some (.ref p0), some (.int p1), some (.int p2), some (.int x3_5), some (.int x4_5)] [] (hH sh W5) (wI sh V) := by
    intro m5
    induction m5 with
    | zero =>
      intro x3_5 x4_5 W5 hm5 f5
      exact absurd hm5 (Nat.not_lt_zero _)
    | succ m5 ih5 =>
      intro x3_5 x4_5 W5 hm5 f5
      have j43 : ∀ (x3_43 : Int32) (W43 : hV), mea (x4_5 + 1) < m5 → FR sh V W43 → WP S 3 mm_m40 43 [some (.ref p0), some (.int p1), some (.int p2), some (.int x3_43), some (.int x4_5)] [] (hH sh W43) (wI sh V) := by
        intro x3_43 W43 hd5 f43
        refine wp_iinc (L1 := [_, _, _, _, _]) 1 k40_43 rfl (by decide) rfl ?_
        refine wp_goto k40_46 ?_
        exact ih5 _ _ _ hd5 f43
      refine wp_iload k40_5 rfl rfl ?_
      refine wp_bipush 32 k40_7 (by decide) ?_
      refine wp_if_icmp_ge k40_9 (fun c9 => ?_) (fun c9 => ?_)
      · refine wp_iload_n k40_49 rfl rfl ?_
        exact wp_retI k40_50 rfl ⟨_, _, rfl, rfl, f5⟩
      · have hd5 : mea (x4_5 + 1) < m5 := Nat.lt_of_lt_of_le (mea_s c9) (Nat.le_of_lt_succ hm5)
        refine wp_aload_n k40_12 rfl rfl ?_
        refine wq_getI k40_13 h0.1 rfl ?_
        refine wp_iload k40_16 rfl rfl ?_
        refine wcsZ (st2 := []) k40_18 (cw159 (S := S)) (by decide) rfl rfl rfl (by decide) (fun b18 W18 g18 => ?_)
        have f18 := FR.t f5 g18
        refine wp_if_eq k40_21 (fun c21 => ?_) (fun c21 => ?_)
        · exact j43 _ _ hd5 f18
        · refine wp_aload_n k40_24 rfl rfl ?_
          refine wp_iload k40_25 rfl rfl ?_
          refine wp_iload_n k40_27 rfl rfl ?_
          refine wcvI (st2 := []) k40_28 (cw39 (S := S) h0) (by decide) rfl rfl rfl rfl h0.1.h h0.1.o (by decide) (fun x28 W28 g28 => ?_)
          have f28 := FR.t f18 g28
          refine wp_iload_n k40_31 rfl rfl ?_
          refine wp_if_icmp_ne k40_32 (fun c32 => ?_) (fun c32 => ?_)
          · exact j43 _ _ hd5 f28
          · refine wp_iload_n k40_35 rfl rfl ?_
            refine wp_iload k40_36 rfl rfl ?_
            refine wcsI (st2 := [_]) k40_38 (cw160 (S := S)) (by decide) rfl rfl rfl (by decide) (fun x38 W38 g38 => ?_)
            have f38 := FR.t f28 g38
            refine wp_ior k40_41 ?_
            refine wp_istore_n (L1 := [_, _, _, _, _]) k40_42 rfl rfl ?_
            exact j43 _ _ hd5 f38
  refine ev_of P40 rfl ?_
  refine wp_iconst 0 k40_0 (by decide) ?_
  refine wp_istore_n (L1 := [_, _, _, _, _]) k40_1 rfl rfl ?_
  refine wp_iconst 0 k40_2 (by decide) ?_
  refine wp_istore (L1 := [_, _, _, _, _]) k40_3 rfl rfl ?_
  exact j5 _ _ _ _ (Nat.lt_succ_self _) f0
theorem cw11 {S : ww_S} {sh : List mm_C} {V : hV} {p0 : Nat} (h0 : kForm sh p0) {p1 : Nat} (h1 : kKnow sh p1) : EVQ S 5 11 [.ref p0, .ref p1] (hH sh V) (wI sh V) := by
  have f0 := FR.r sh V
  have j4 : ∀ (m4 : Nat) (x2_4 : Int32) (x3_4 : Int32) (y4_4 : Option Value) (y5_4 : Option Value) (y6_4 : Option Value) (W4 : hV), mea x3_4 < m4 → FR sh V W4 → WP S 4 mm_m11 4 [some (.ref p0), some (.ref p1), some (.int x2_4), some (.int x3_4), y4_4, y5_4, y6_4] [] (hH sh W4) (wI sh V) := by
    intro m4
    induction m4 with
    | zero =>
      intro x2_4 x3_4 y4_4 y5_4 y6_4 W4 hm4 f4
      exact absurd hm4 (Nat.not_lt_zero _)
    | succ m4 ih4 =>
      intro x2_4 x3_4 y4_4 y5_4 y6_4 W4 hm4 f4
      have j154 : ∀ (x2_154 : Int32) (x4_154 : Int32) (y5_154 : Option Value) (y6_154 : Option Value) (W154 : hV), mea (x3_4 + 1) < m4 → FR sh V W154 → WP S 4 mm_m11 154 [some (.ref p0), some (.ref p1), some (.int x2_154), some (.int x3_4), some (.int x4_154), y5_154, y6_154] [] (hH sh W154) (wI sh V) := by
        intro x2_154 x4_154 y5_154 y6_154 W154 hd4 f154
        refine wp_iinc (L1 := [_, _, _, _, _, _, _]) 1 k11_154 rfl (by decide) rfl ?_
        refine wp_goto k11_157 ?_
        exact ih4 _ _ _ _ _ _ hd4 f154
      have j118 : ∀ (x2_118 : Int32) (x4_118 : Int32) (x5_118 : Int32) (x6_118 : Int32) (xs0_118 : Int32) (xs1_118 : Int32) (W118 : hV), mea (x3_4 + 1) < m4 → FR sh V W118 → WP S 4 mm_m11 118 [some (.ref p0), some (.ref p1), some (.int x2_118), some (.int x3_4), some (.int x4_118), some (.int x5_118), some (.int x6_118)] [.int xs0_118, .int xs1_118, .ref (p0 + 3)] (hH sh W118) (wI sh V) := by
        intro x2_118 x4_118 x5_118 x6_118 xs0_118 xs1_118 W118 hd4 f118
        refine wcsN (st2 := []) k11_118 (cw157 (S := S) h0.2.2.2 (by decide)) (by decide) rfl rfl rfl (by decide) (fun W118 g118 => ?_)
        have f118 := FR.t f118 g118
        refine wp_goto k11_121 ?_
        exact j154 _ _ _ _ _ hd4 f118
      refine wp_iload_n k11_4 rfl rfl ?_
      refine wp_aload_n k11_5 rfl rfl ?_
      refine wq_getI k11_6 h0.1 rfl ?_
      refine wp_if_icmp_ge k11_9 (fun c9 => ?_) (fun c9 => ?_)
      · refine wp_aload_n k11_160 rfl rfl ?_
        refine wq_getR k11_161 h0.1 rfl ?_
        refine wp_iconst 0 k11_164 (by decide) ?_
        refine wcsI (st2 := []) k11_165 (cw156 (S := S) h0.2.2.2 (by decide)) (by decide) rfl rfl rfl (by decide) (fun x165 W165 g165 => ?_)
        have f165 := FR.t f4 g165
        exact wp_retI k11_168 rfl ⟨_, _, rfl, rfl, f165⟩
      · have hd4 : mea (x3_4 + 1) < m4 := Nat.lt_of_lt_of_le (mea_s c9) (Nat.le_of_lt_succ hm4)
        refine wp_aload_n k11_12 rfl rfl ?_
        refine wq_getR k11_13 h0.1 rfl ?_
        refine wp_iload_n k11_16 rfl rfl ?_
        refine wcsI (st2 := []) k11_17 (cw156 (S := S) h0.2.1 (by decide)) (by decide) rfl rfl rfl (by decide) (fun x17 W17 g17 => ?_)
        have f17 := FR.t f4 g17
        refine wp_istore (L1 := [_, _, _, _, _, _, _]) k11_20 rfl rfl ?_
        refine wp_iload k11_22 rfl rfl ?_
        refine wp_if_ne k11_24 (fun c24 => ?_) (fun c24 => ?_)
        · refine wp_iload k11_60 rfl rfl ?_
          refine wcsZ (st2 := []) k11_62 (cw165 (S := S)) (by decide) rfl rfl rfl (by decide) (fun b62 W62 g62 => ?_)
          have f62 := FR.t f17 g62
          refine wp_if_eq k11_65 (fun c65 => ?_) (fun c65 => ?_)
          · refine wp_aload_n k11_124 rfl rfl ?_
            refine wq_getR k11_125 h0.1 rfl ?_
            refine wp_iload_n k11_128 rfl rfl ?_
            refine wp_aload_n k11_129 rfl rfl ?_
            refine wp_iload k11_130 rfl rfl ?_
            refine wp_aload_n k11_132 rfl rfl ?_
            refine wq_getR k11_133 h0.1 rfl ?_
            refine wp_iload_n k11_136 rfl rfl ?_
            refine wcsI (st2 := [_, _, _, _]) k11_137 (cw156 (S := S) h0.2.2.1 (by decide)) (by decide) rfl rfl rfl (by decide) (fun x137 W137 g137 => ?_)
            have f137 := FR.t f62 g137
            refine wp_aload_n k11_140 rfl rfl ?_
            refine wq_getR k11_141 h0.1 rfl ?_
            refine wp_iload_n k11_144 rfl rfl ?_
            refine wcsI (st2 := [_, _, _, _, _]) k11_145 (cw156 (S := S) h0.2.2.2 (by decide)) (by decide) rfl rfl rfl (by decide) (fun x145 W145 g145 => ?_)
            have f145 := FR.t f137 g145
            refine wcvI (st2 := [_, _]) k11_148 (cw37 (S := S) h1) (by decide) rfl rfl rfl rfl h1.1.h h1.1.o (by decide) (fun x148 W148 g148 => ?_)
            have f148 := FR.t f145 g148
            refine wcsN (st2 := []) k11_151 (cw157 (S := S) h0.2.2.2 (by decide)) (by decide) rfl rfl rfl (by decide) (fun W151 g151 => ?_)
            have f151 := FR.t f148 g151
            exact j154 _ _ _ _ _ hd4 f151
          · refine wp_iinc (L1 := [_, _, _, _, _, _, _]) (-1) k11_68 rfl (by decide) rfl ?_
            refine wp_aload_n k11_71 rfl rfl ?_
            refine wq_getR k11_72 h0.1 rfl ?_
            refine wp_iload_n k11_75 rfl rfl ?_
            refine wcsI (st2 := []) k11_76 (cw156 (S := S) h0.2.2.2 (by decide)) (by decide) rfl rfl rfl (by decide) (fun x76 W76 g76 => ?_)
            have f76 := FR.t f62 g76
            refine wp_istore (L1 := [_, _, _, _, _, _, _]) k11_79 rfl rfl ?_
            refine wp_aload_n k11_81 rfl rfl ?_
            refine wq_getR k11_82 h0.1 rfl ?_
            refine wp_iload_n k11_85 rfl rfl ?_
            refine wp_iconst 1 k11_86 (by decide) ?_
            refine wp_iadd k11_87 ?_
            refine wcsI (st2 := []) k11_88 (cw156 (S := S) h0.2.2.2 (by decide)) (by decide) rfl rfl rfl (by decide) (fun x88 W88 g88 => ?_)
            have f88 := FR.t f76 g88
            refine wp_istore (L1 := [_, _, _, _, _, _, _]) k11_91 rfl rfl ?_
            refine wp_aload_n k11_93 rfl rfl ?_
            refine wq_getR k11_94 h0.1 rfl ?_
            refine wp_iload_n k11_97 rfl rfl ?_
            refine wp_iload k11_98 rfl rfl ?_
            refine wp_bipush 6 k11_100 (by decide) ?_
            refine wp_if_icmp_ne k11_102 (fun c102 => ?_) (fun c102 => ?_)
            · refine wp_iload k11_113 rfl rfl ?_
              refine wp_iload k11_115 rfl rfl ?_
              refine wp_ior k11_117 ?_
              exact j118 _ _ _ _ _ _ _ hd4 f88
            · refine wp_iload k11_105 rfl rfl ?_
              refine wp_iload k11_107 rfl rfl ?_
              refine wp_iand k11_109 ?_
              refine wp_goto k11_110 ?_
              exact j118 _ _ _ _ _ _ _ hd4 f88
        · refine wp_iinc (L1 := [_, _, _, _, _, _, _]) 1 k11_27 rfl (by decide) rfl ?_
          refine wp_aload_n k11_30 rfl rfl ?_
          refine wq_getR k11_31 h0.1 rfl ?_
          refine wp_iload_n k11_34 rfl rfl ?_
          refine wp_aload_n k11_35 rfl rfl ?_
          refine wq_getI k11_36 h1.1 rfl ?_
          refine wp_getstatic k11_39 rfl ?_
          refine wp_aload_n k11_42 rfl rfl ?_
          refine wq_getR k11_43 h0.1 rfl ?_
          refine wp_iload_n k11_46 rfl rfl ?_
          refine wcsI (st2 := [_, _, _, _]) k11_47 (cw156 (S := S) h0.2.2.1 (by decide)) (by decide) rfl rfl rfl (by decide) (fun x47 W47 g47 => ?_)
          have f47 := FR.t f17 g47
          refine wcsI (st2 := [_, _, _]) k11_50 (cw156x (S := S)) (by decide) rfl rfl rfl (by decide) (fun x50 W50 g50 => ?_)
          have f50 := FR.t f47 g50
          refine wp_iand k11_53 ?_
          refine wcsN (st2 := []) k11_54 (cw157 (S := S) h0.2.2.2 (by decide)) (by decide) rfl rfl rfl (by decide) (fun W54 g54 => ?_)
          have f54 := FR.t f50 g54
          refine wp_goto k11_57 ?_
          exact j154 _ _ _ _ _ hd4 f54
  refine ev_of P11 rfl ?_
  refine wp_iconst (-1) k11_0 (by decide) ?_
  refine wp_istore_n (L1 := [_, _, _, _, _, _, _]) k11_1 rfl rfl ?_
  refine wp_iconst 0 k11_2 (by decide) ?_
  refine wp_istore_n (L1 := [_, _, _, _, _, _, _]) k11_3 rfl rfl ?_
  exact j4 _ _ _ _ _ _ _ (Nat.lt_succ_self _) f0
theorem cw12 {S : ww_S} {sh : List mm_C} {V : hV} {p0 : Nat} (h0 : kForm sh p0) : EVQ S 2 12 [.ref p0] (hH sh V) (wI sh V) := by
  have f0 := FR.r sh V
  have j4 : ∀ (m4 : Nat) (x1_4 : Int32) (x2_4 : Int32) (y3_4 : Option Value) (W4 : hV), mea x2_4 < m4 → FR sh V W4 → WP S 1 mm_m12 4 [some (.ref p0), some (.int x1_4), some (.int x2_4), y3_4] [] (hH sh W4) (wI sh V) := by
    intro m4
    induction m4 with
    | zero =>
      intro x1_4 x2_4 y3_4 W4 hm4 f4
      exact absurd hm4 (Nat.not_lt_zero _)
    | succ m4 ih4 =>
      intro x1_4 x2_4 y3_4 W4 hm4 f4
      have j105 : ∀ (x1_105 : Int32) (x3_105 : Int32) (W105 : hV), mea (x2_4 + 1) < m4 → FR sh V W105 → WP S 1 mm_m12 105 [some (.ref p0), some (.int x1_105), some (.int x2_4), some (.int x3_105)] [] (hH sh W105) (wI sh V) := by
        intro x1_105 x3_105 W105 hd4 f105
        refine wp_iinc (L1 := [_, _, _, _]) 1 k12_105 rfl (by decide) rfl ?_
        refine wp_goto k12_108 ?_
        exact ih4 _ _ _ _ hd4 f105
      refine wp_iload_n k12_4 rfl rfl ?_
      refine wp_aload_n k12_5 rfl rfl ?_
      refine wq_getI k12_6 h0.1 rfl ?_
      refine wp_if_icmp_ge k12_9 (fun c9 => ?_) (fun c9 => ?_)
      · refine wp_aload_n k12_111 rfl rfl ?_
        refine wq_getR k12_112 h0.1 rfl ?_
        refine wp_iconst 0 k12_115 (by decide) ?_
        refine wcsI (st2 := []) k12_116 (cw156 (S := S) h0.2.2.2 (by decide)) (by decide) rfl rfl rfl (by decide) (fun x116 W116 g116 => ?_)
        have f116 := FR.t f4 g116
        exact wp_retI k12_119 rfl ⟨_, _, rfl, rfl, f116⟩
      · have hd4 : mea (x2_4 + 1) < m4 := Nat.lt_of_lt_of_le (mea_s c9) (Nat.le_of_lt_succ hm4)
        refine wp_aload_n k12_12 rfl rfl ?_
        refine wq_getR k12_13 h0.1 rfl ?_
        refine wp_iload_n k12_16 rfl rfl ?_
        refine wcsI (st2 := []) k12_17 (cw156 (S := S) h0.2.1 (by decide)) (by decide) rfl rfl rfl (by decide) (fun x17 W17 g17 => ?_)
        have f17 := FR.t f4 g17
        refine wp_istore_n (L1 := [_, _, _, _]) k12_20 rfl rfl ?_
        refine wp_iload_n k12_21 rfl rfl ?_
        refine wp_if_ne k12_22 (fun c22 => ?_) (fun c22 => ?_)
        · refine wp_iload_n k12_40 rfl rfl ?_
          refine wcsZ (st2 := []) k12_41 (cw165 (S := S)) (by decide) rfl rfl rfl (by decide) (fun b41 W41 g41 => ?_)
          have f41 := FR.t f17 g41
          refine wp_if_eq k12_44 (fun c44 => ?_) (fun c44 => ?_)
          · refine wp_iload_n k12_82 rfl rfl ?_
            refine wp_iconst 1 k12_83 (by decide) ?_
            refine wp_if_icmp_eq k12_84 (fun c84 => ?_) (fun c84 => ?_)
            · exact j105 _ _ _ hd4 f41
            · refine wp_aload_n k12_87 rfl rfl ?_
              refine wq_getR k12_88 h0.1 rfl ?_
              refine wp_iload_n k12_91 rfl rfl ?_
              refine wp_aload_n k12_92 rfl rfl ?_
              refine wq_getR k12_93 h0.1 rfl ?_
              refine wp_iload_n k12_96 rfl rfl ?_
              refine wcsI (st2 := [_, _]) k12_97 (cw156 (S := S) h0.2.2.2 (by decide)) (by decide) rfl rfl rfl (by decide) (fun x97 W97 g97 => ?_)
              have f97 := FR.t f41 g97
              refine wp_iconst 1 k12_100 (by decide) ?_
              refine wp_iadd k12_101 ?_
              refine wcsN (st2 := []) k12_102 (cw157 (S := S) h0.2.2.2 (by decide)) (by decide) rfl rfl rfl (by decide) (fun W102 g102 => ?_)
              have f102 := FR.t f97 g102
              exact j105 _ _ _ hd4 f102
          · refine wp_iinc (L1 := [_, _, _, _]) (-1) k12_47 rfl (by decide) rfl ?_
            refine wp_aload_n k12_50 rfl rfl ?_
            refine wq_getR k12_51 h0.1 rfl ?_
            refine wp_iload_n k12_54 rfl rfl ?_
            refine wp_aload_n k12_55 rfl rfl ?_
            refine wq_getR k12_56 h0.1 rfl ?_
            refine wp_iload_n k12_59 rfl rfl ?_
            refine wcsI (st2 := [_, _]) k12_60 (cw156 (S := S) h0.2.2.2 (by decide)) (by decide) rfl rfl rfl (by decide) (fun x60 W60 g60 => ?_)
            have f60 := FR.t f41 g60
            refine wp_aload_n k12_63 rfl rfl ?_
            refine wq_getR k12_64 h0.1 rfl ?_
            refine wp_iload_n k12_67 rfl rfl ?_
            refine wp_iconst 1 k12_68 (by decide) ?_
            refine wp_iadd k12_69 ?_
            refine wcsI (st2 := [_, _, _]) k12_70 (cw156 (S := S) h0.2.2.2 (by decide)) (by decide) rfl rfl rfl (by decide) (fun x70 W70 g70 => ?_)
            have f70 := FR.t f60 g70
            refine wp_max k12_73 rfl ?_
            refine wcsN (st2 := []) k12_76 (cw157 (S := S) h0.2.2.2 (by decide)) (by decide) rfl rfl rfl (by decide) (fun W76 g76 => ?_)
            have f76 := FR.t f70 g76
            refine wp_goto k12_79 ?_
            exact j105 _ _ _ hd4 f76
        · refine wp_iinc (L1 := [_, _, _, _]) 1 k12_25 rfl (by decide) rfl ?_
          refine wp_aload_n k12_28 rfl rfl ?_
          refine wq_getR k12_29 h0.1 rfl ?_
          refine wp_iload_n k12_32 rfl rfl ?_
          refine wp_iconst 0 k12_33 (by decide) ?_
          refine wcsN (st2 := []) k12_34 (cw157 (S := S) h0.2.2.2 (by decide)) (by decide) rfl rfl rfl (by decide) (fun W34 g34 => ?_)
          have f34 := FR.t f17 g34
          refine wp_goto k12_37 ?_
          exact j105 _ _ _ hd4 f34
  refine ev_of P12 rfl ?_
  refine wp_iconst (-1) k12_0 (by decide) ?_
  refine wp_istore_n (L1 := [_, _, _, _]) k12_1 rfl rfl ?_
  refine wp_iconst 0 k12_2 (by decide) ?_
  refine wp_istore_n (L1 := [_, _, _, _]) k12_3 rfl rfl ?_
  exact j4 _ _ _ _ _ (Nat.lt_succ_self _) f0
theorem cw15 {S : ww_S} {sh : List mm_C} {V : hV} {p0 : Nat} (h0 : kForm sh p0) : EVQ S 2 15 [.ref p0] (hH sh V) (wN sh V) := by
  have f0 := FR.r sh V
  have j2 : ∀ (m2 : Nat) (x1_2 : Int32) (y2_2 : Option Value) (W2 : hV), mea x1_2 < m2 → FR sh V W2 → WP S 1 mm_m15 2 [some (.ref p0), some (.int x1_2), y2_2] [] (hH sh W2) (wN sh V) := by
    intro m2
    induction m2 with
    | zero =>
      intro x1_2 y2_2 W2 hm2 f2
      exact absurd hm2 (Nat.not_lt_zero _)
    | succ m2 ih2 =>
      intro x1_2 y2_2 W2 hm2 f2
      have j74 : ∀ (x2_74 : Int32) (W74 : hV), mea (x1_2 + 1) < m2 → FR sh V W74 → WP S 1 mm_m15 74 [some (.ref p0), some (.int x1_2), some (.int x2_74)] [] (hH sh W74) (wN sh V) := by
        intro x2_74 W74 hd2 f74
        refine wp_aload_n k15_74 rfl rfl ?_
        refine wq_getR k15_75 h0.1 rfl ?_
        refine wp_iload_n k15_78 rfl rfl ?_
        refine wp_iload_n k15_79 rfl rfl ?_
        refine wcsN (st2 := []) k15_80 (cw157 (S := S) h0.2.2.2 (by decide)) (by decide) rfl rfl rfl (by decide) (fun W80 g80 => ?_)
        have f80 := FR.t f74 g80
        refine wp_iinc (L1 := [_, _, _]) 1 k15_83 rfl (by decide) rfl ?_
        refine wp_goto k15_86 ?_
        exact ih2 _ _ _ hd2 f80
      refine wp_iload_n k15_2 rfl rfl ?_
      refine wp_aload_n k15_3 rfl rfl ?_
      refine wq_getI k15_4 h0.1 rfl ?_
      refine wp_if_icmp_ge k15_7 (fun c7 => ?_) (fun c7 => ?_)
      · exact wp_retN k15_89 rfl ⟨_, rfl, rfl, f2⟩
      · have hd2 : mea (x1_2 + 1) < m2 := Nat.lt_of_lt_of_le (mea_s c7) (Nat.le_of_lt_succ hm2)
        refine wp_iload_n k15_10 rfl rfl ?_
        refine wp_istore_n (L1 := [_, _, _]) k15_11 rfl rfl ?_
        refine wp_aload_n k15_12 rfl rfl ?_
        refine wq_getR k15_13 h0.1 rfl ?_
        refine wp_iload_n k15_16 rfl rfl ?_
        refine wcsI (st2 := []) k15_17 (cw156 (S := S) h0.2.1 (by decide)) (by decide) rfl rfl rfl (by decide) (fun x17 W17 g17 => ?_)
        have f17 := FR.t f2 g17
        refine wcsZ (st2 := []) k15_20 (cw164 (S := S)) (by decide) rfl rfl rfl (by decide) (fun b20 W20 g20 => ?_)
        have f20 := FR.t f17 g20
        refine wp_if_eq k15_23 (fun c23 => ?_) (fun c23 => ?_)
        · refine wp_aload_n k15_40 rfl rfl ?_
          refine wq_getR k15_41 h0.1 rfl ?_
          refine wp_iload_n k15_44 rfl rfl ?_
          refine wcsI (st2 := []) k15_45 (cw156 (S := S) h0.2.1 (by decide)) (by decide) rfl rfl rfl (by decide) (fun x45 W45 g45 => ?_)
          have f45 := FR.t f20 g45
          refine wcsZ (st2 := []) k15_48 (cw165 (S := S)) (by decide) rfl rfl rfl (by decide) (fun b48 W48 g48 => ?_)
          have f48 := FR.t f45 g48
          refine wp_if_eq k15_51 (fun c51 => ?_) (fun c51 => ?_)
          · exact j74 _ _ hd2 f48
          · refine wp_aload_n k15_54 rfl rfl ?_
            refine wq_getR k15_55 h0.1 rfl ?_
            refine wp_aload_n k15_58 rfl rfl ?_
            refine wq_getR k15_59 h0.1 rfl ?_
            refine wp_iload_n k15_62 rfl rfl ?_
            refine wp_iconst 1 k15_63 (by decide) ?_
            refine wp_isub k15_64 ?_
            refine wcsI (st2 := [_]) k15_65 (cw156 (S := S) h0.2.2.2 (by decide)) (by decide) rfl rfl rfl (by decide) (fun x65 W65 g65 => ?_)
            have f65 := FR.t f48 g65
            refine wp_iconst 1 k15_68 (by decide) ?_
            refine wp_isub k15_69 ?_
            refine wcsI (st2 := []) k15_70 (cw156 (S := S) h0.2.2.2 (by decide)) (by decide) rfl rfl rfl (by decide) (fun x70 W70 g70 => ?_)
            have f70 := FR.t f65 g70
            refine wp_istore_n (L1 := [_, _, _]) k15_73 rfl rfl ?_
            exact j74 _ _ hd2 f70
        · refine wp_aload_n k15_26 rfl rfl ?_
          refine wq_getR k15_27 h0.1 rfl ?_
          refine wp_iload_n k15_30 rfl rfl ?_
          refine wp_iconst 1 k15_31 (by decide) ?_
          refine wp_isub k15_32 ?_
          refine wcsI (st2 := []) k15_33 (cw156 (S := S) h0.2.2.2 (by decide)) (by decide) rfl rfl rfl (by decide) (fun x33 W33 g33 => ?_)
          have f33 := FR.t f20 g33
          refine wp_istore_n (L1 := [_, _, _]) k15_36 rfl rfl ?_
          refine wp_goto k15_37 ?_
          exact j74 _ _ hd2 f33
  refine ev_of P15 rfl ?_
  refine wp_iconst 0 k15_0 (by decide) ?_
  refine wp_istore_n (L1 := [_, _, _]) k15_1 rfl rfl ?_
  exact j2 _ _ _ _ (Nat.lt_succ_self _) f0
theorem cw43 {S : ww_S} {sh : List mm_C} {V : hV} {p0 : Nat} (h0 : kLog sh p0) : EVQ S 2 43 [.ref p0] (hH sh V) (wN sh V) := by
  have f0 := FR.r sh V
  have j7 : ∀ (m7 : Nat) (x1_7 : Int32) (W7 : hV), mea x1_7 < m7 → FR sh V W7 → WP S 1 mm_m43 7 [some (.ref p0), some (.int x1_7)] [] (hH sh W7) (wN sh V) := by
    intro m7
    induction m7 with
    | zero =>
      intro x1_7 W7 hm7 f7
      exact absurd hm7 (Nat.not_lt_zero _)
    | succ m7 ih7 =>
      intro x1_7 W7 hm7 f7
      refine wp_iload_n k43_7 rfl rfl ?_
      refine wp_bipush 7 k43_8 (by decide) ?_
      refine wp_if_icmp_ge k43_10 (fun c10 => ?_) (fun c10 => ?_)
      · exact wp_retN k43_28 rfl ⟨_, rfl, rfl, f7⟩
      · have hd7 : mea (x1_7 + 1) < m7 := Nat.lt_of_lt_of_le (mea_s c10) (Nat.le_of_lt_succ hm7)
        refine wp_aload_n k43_13 rfl rfl ?_
        refine wq_getR k43_14 h0.1 rfl ?_
        refine wp_iload_n k43_17 rfl rfl ?_
        refine wp_iconst 0 k43_18 (by decide) ?_
        refine wcsN (st2 := []) k43_19 (cw157 (S := S) h0.2.2.2.2 (by decide)) (by decide) rfl rfl rfl (by decide) (fun W19 g19 => ?_)
        have f19 := FR.t f7 g19
        refine wp_iinc (L1 := [_, _]) 1 k43_22 rfl (by decide) rfl ?_
        refine wp_goto k43_25 ?_
        exact ih7 _ _ hd7 f19
  refine ev_of P43 rfl ?_
  refine wp_aload_n k43_0 rfl rfl ?_
  refine wp_iconst 0 k43_1 (by decide) ?_
  refine wq_putI k43_2 h0.1 rfl rfl rfl (Or.inl (h0.1.n rfl)) rfl (fun W2 g2 => ?_)
  have f2 := FR.t f0 g2
  refine wp_iconst 0 k43_5 (by decide) ?_
  refine wp_istore_n (L1 := [_, _]) k43_6 rfl rfl ?_
  exact j7 _ _ _ (Nat.lt_succ_self _) f2
theorem cw44 {S : ww_S} {sh : List mm_C} {V : hV} {p0 : Nat} (h0 : kLog sh p0) {p1 : Nat} (h1 : kLog sh p1) : EVQ S 2 44 [.ref p0, .ref p1] (hH sh V) (wN sh V) := by
  have f0 := FR.r sh V
  refine ev_of P44 rfl ?_
  refine wp_aload_n k44_0 rfl rfl ?_
  refine wq_getR k44_1 h1.1 rfl ?_
  refine wp_aload_n k44_4 rfl rfl ?_
  refine wq_getR k44_5 h0.1 rfl ?_
  refine wcsN (st2 := []) k44_8 (cw158 (S := S) h1.2.1 (by decide) h0.2.1 (by decide)) (by decide) rfl rfl rfl (by decide) (fun W8 g8 => ?_)
  have f8 := FR.t f0 g8
  refine wp_aload_n k44_11 rfl rfl ?_
  refine wq_getR k44_12 h1.1 rfl ?_
  refine wp_aload_n k44_15 rfl rfl ?_
  refine wq_getR k44_16 h0.1 rfl ?_
  refine wcsN (st2 := []) k44_19 (cw158 (S := S) h1.2.2.1 (by decide) h0.2.2.1 (by decide)) (by decide) rfl rfl rfl (by decide) (fun W19 g19 => ?_)
  have f19 := FR.t f8 g19
  refine wp_aload_n k44_22 rfl rfl ?_
  refine wq_getR k44_23 h1.1 rfl ?_
  refine wp_aload_n k44_26 rfl rfl ?_
  refine wq_getR k44_27 h0.1 rfl ?_
  refine wcsN (st2 := []) k44_30 (cw158 (S := S) h1.2.2.2.1 (by decide) h0.2.2.2.1 (by decide)) (by decide) rfl rfl rfl (by decide) (fun W30 g30 => ?_)
  have f30 := FR.t f19 g30
  refine wp_aload_n k44_33 rfl rfl ?_
  refine wq_getR k44_34 h1.1 rfl ?_
  refine wp_aload_n k44_37 rfl rfl ?_
  refine wq_getR k44_38 h0.1 rfl ?_
  refine wcsN (st2 := []) k44_41 (cw158 (S := S) h1.2.2.2.2 (by decide) h0.2.2.2.2 (by decide)) (by decide) rfl rfl rfl (by decide) (fun W41 g41 => ?_)
  have f41 := FR.t f30 g41
  refine wp_aload_n k44_44 rfl rfl ?_
  refine wp_aload_n k44_45 rfl rfl ?_
  refine wq_getI k44_46 h1.1 rfl ?_
  refine wq_putI k44_49 h0.1 rfl rfl rfl (Or.inl (h0.1.n rfl)) rfl (fun W49 g49 => ?_)
  have f49 := FR.t f41 g49
  exact wp_retN k44_52 rfl ⟨_, rfl, rfl, f49⟩
theorem cw46 {S : ww_S} {sh : List mm_C} {V : hV} {p0 : Nat} (h0 : kLog sh p0) {p1 : Int32} {p2 : Int32} : EVQ S 2 46 [.ref p0, .int p1, .int p2] (hH sh V) (wI sh V) := by
  have f0 := FR.r sh V
  have j41 : ∀ (as0_41 : Nat) (has0_41 : kA sh as0_41 20) (W41 : hV), FR sh V W41 → WP S 1 mm_m46 41 [some (.ref p0), some (.int p1), some (.int p2)] [.ref as0_41] (hH sh W41) (wI sh V) := by
    intro as0_41 has0_41 W41 f41
    refine wp_iload_n k46_41 rfl rfl ?_
    refine wcsI (st2 := []) k46_42 (cw156 (S := S) has0_41 (by decide)) (by decide) rfl rfl rfl (by decide) (fun x42 W42 g42 => ?_)
    have f42 := FR.t f41 g42
    exact wp_retI k46_45 rfl ⟨_, _, rfl, rfl, f42⟩
  have j12 : ∀  (W12 : hV), FR sh V W12 → WP S 1 mm_m46 12 [some (.ref p0), some (.int p1), some (.int p2)] [] (hH sh W12) (wI sh V) := by
    intro W12 f12
    refine wp_iconst (-1) k46_12 (by decide) ?_
    exact wp_retI k46_13 rfl ⟨_, _, rfl, rfl, f12⟩
  refine ev_of P46 rfl ?_
  refine wp_iload_n k46_0 rfl rfl ?_
  refine wp_if_lt k46_1 (fun c1 => ?_) (fun c1 => ?_)
  · exact j12  _ f0
  · refine wp_iload_n k46_4 rfl rfl ?_
    refine wp_aload_n k46_5 rfl rfl ?_
    refine wq_getI k46_6 h0.1 rfl ?_
    refine wp_if_icmp_lt k46_9 (fun c9 => ?_) (fun c9 => ?_)
    · refine wp_iload_n k46_14 rfl rfl ?_
      refine wp_if_ne k46_15 (fun c15 => ?_) (fun c15 => ?_)
      · refine wp_iload_n k46_25 rfl rfl ?_
        refine wp_iconst 1 k46_26 (by decide) ?_
        refine wp_if_icmp_ne k46_27 (fun c27 => ?_) (fun c27 => ?_)
        · refine wp_aload_n k46_37 rfl rfl ?_
          refine wq_getR k46_38 h0.1 rfl ?_
          exact j41 _ h0.2.2.2.1 _ f0
        · refine wp_aload_n k46_30 rfl rfl ?_
          refine wq_getR k46_31 h0.1 rfl ?_
          refine wp_goto k46_34 ?_
          exact j41 _ h0.2.2.1 _ f0
      · refine wp_aload_n k46_18 rfl rfl ?_
        refine wq_getR k46_19 h0.1 rfl ?_
        refine wp_goto k46_22 ?_
        exact j41 _ h0.2.1 _ f0
    · exact j12  _ f0
end M44
