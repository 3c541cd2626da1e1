section M46
/-! ===== the class: counts, likeness, the log, states, questions (that they end, what they leave as it is) ===== -/
theorem pos_nn {x : Int32} (h : 0 < x) : ¬ x < 0 := fun q => absurd (Int32.lt_trans h q) (by decide)
theorem pos_pred {x : Int32} (h : 0 < x) : (x - 1).toInt = x.toInt - 1 := by
  have h1 := Int32.lt_iff_toInt_lt.mp h
  have h2 := x.toInt_lt
  have : (0 : Int32).toInt = 0 := rfl
  rw [Int32.toInt_sub]
  show (x.toInt - 1).bmod (2 ^ 32) = _
  rw [Int.bmod_eq_of_le (by omega) (by omega)]
theorem pred_nn {x : Int32} (h : 0 < x) : ¬ x - 1 < 0 := fun q => by
  have h1 := Int32.lt_iff_toInt_lt.mp h
  have q := Int32.lt_iff_toInt_lt.mp q
  rw [pos_pred h] at q
  have : (0 : Int32).toInt = 0 := rfl
  omega
theorem pred_lt {x y : Int32} (h : 0 < x) (h2 : x < y) : x - 1 < y := by
  refine Int32.lt_iff_toInt_lt.mpr ?_
  have h3 := Int32.lt_iff_toInt_lt.mp h2
  rw [pos_pred h]
  omega
theorem dec_lt {x y : Int32} (h : 0 < x) (h2 : x < y) : x + -1 < y := by
  rw [show x + -1 = x - 1 from (Int32.sub_eq_add_neg x 1).symm]
  exact pred_lt h h2
theorem pred_n {n : Nat} (h1 : 1 ≤ n) (hn : n ≤ 100000) : Int32.ofNat n - 1 < Int32.ofNat n := by
  rw [i_pred (by omega)]
  exact i_lt (by omega) (by omega)
theorem cw360 {S : ww_S} {sh : List mm_C} {V : hV} {p0 : Int32} : EVQ S 1 360 [.int p0] (hH sh V) (wI sh V) := by
  have f0 := FR.r sh V
  refine ev_of P360 rfl ?_
  refine wp_iload_n k360_0 rfl rfl ?_
  refine wp_iload_n k360_1 rfl rfl ?_
  refine wp_iconst 1 k360_2 (by decide) ?_
  refine wp_iushr k360_3 ?_
  refine wp_ldc_wI _ k360_4 rfl ?_
  refine wp_iand k360_7 ?_
  refine wp_isub k360_8 ?_
  refine wp_istore_n (L1 := [_]) k360_9 rfl rfl ?_
  refine wp_iload_n k360_10 rfl rfl ?_
  refine wp_ldc_wI _ k360_11 rfl ?_
  refine wp_iand k360_14 ?_
  refine wp_iload_n k360_15 rfl rfl ?_
  refine wp_iconst 2 k360_16 (by decide) ?_
  refine wp_iushr k360_17 ?_
  refine wp_ldc_wI _ k360_18 rfl ?_
  refine wp_iand k360_21 ?_
  refine wp_iadd k360_22 ?_
  refine wp_istore_n (L1 := [_]) k360_23 rfl rfl ?_
  refine wp_iload_n k360_24 rfl rfl ?_
  refine wp_iload_n k360_25 rfl rfl ?_
  refine wp_iconst 4 k360_26 (by decide) ?_
  refine wp_iushr k360_27 ?_
  refine wp_iadd k360_28 ?_
  refine wp_ldc_wI _ k360_29 rfl ?_
  refine wp_iand k360_32 ?_
  refine wp_istore_n (L1 := [_]) k360_33 rfl rfl ?_
  refine wp_iload_n k360_34 rfl rfl ?_
  refine wp_iload_n k360_35 rfl rfl ?_
  refine wp_bipush 8 k360_36 (by decide) ?_
  refine wp_iushr k360_38 ?_
  refine wp_iadd k360_39 ?_
  refine wp_istore_n (L1 := [_]) k360_40 rfl rfl ?_
  refine wp_iload_n k360_41 rfl rfl ?_
  refine wp_iload_n k360_42 rfl rfl ?_
  refine wp_bipush 16 k360_43 (by decide) ?_
  refine wp_iushr k360_45 ?_
  refine wp_iadd k360_46 ?_
  refine wp_istore_n (L1 := [_]) k360_47 rfl rfl ?_
  refine wp_iload_n k360_48 rfl rfl ?_
  refine wp_bipush 63 k360_49 (by decide) ?_
  refine wp_iand k360_51 ?_
  exact wp_retI k360_52 rfl ⟨_, _, rfl, rfl, f0⟩
theorem cw28 {S : ww_S} {sh : List mm_C} {V : hV} {p0 : Nat} (h0 : kKnow sh p0) : EVQ S 2 28 [.ref p0] (hH sh V) (wI sh V) := by
  have f0 := FR.r sh V
  refine ev_of P28 rfl ?_
  refine wp_aload_n k28_0 rfl rfl ?_
  refine wq_getI k28_1 h0.1 rfl ?_
  refine wcsI (st2 := []) k28_4 (cw360 (S := S)) (by decide) rfl rfl rfl (by decide) (fun x4 W4 g4 => ?_)
  have f4 := FR.t f0 g4
  exact wp_retI k28_7 rfl ⟨_, _, rfl, rfl, f4⟩
theorem cw31 {S : ww_S} {sh : List mm_C} {V : hV} {p0 : Nat} (h0 : kKnow sh p0) {p1 : Int32} : EVQ S 2 31 [.ref p0, .int p1] (hH sh V) (wI sh V) := by
  have f0 := FR.r sh V
  have j4 : ∀ (m4 : Nat) (x2_4 : Int32) (x3_4 : Int32) (W4 : hV), mea x3_4 < m4 → FR sh V W4 → WP S 1 mm_m31 4 [some (.ref p0), some (.int p1), some (.int x2_4), some (.int x3_4)] [] (hH sh W4) (wI sh V) := by
    intro m4
    induction m4 with
    | zero =>
      intro x2_4 x3_4 W4 hm4 f4
      exact absurd hm4 (Nat.not_lt_zero _)
    | succ m4 ih4 =>
      intro x2_4 x3_4 W4 hm4 f4
      refine wp_iload_n k31_4 rfl rfl ?_
      refine wp_bipush 32 k31_5 (by decide) ?_
      refine wp_if_icmp_ge k31_7 (fun c7 => ?_) (fun c7 => ?_)
      · refine wp_iload_n k31_28 rfl rfl ?_
        exact wp_retI k31_29 rfl ⟨_, _, rfl, rfl, f4⟩
      · have hd4 : mea (x3_4 + 1) < m4 := Nat.lt_of_lt_of_le (mea_s c7) (Nat.le_of_lt_succ hm4)
        refine wp_iload_n k31_10 rfl rfl ?_
        refine wp_aload_n k31_11 rfl rfl ?_
        refine wp_iload_n k31_12 rfl rfl ?_
        refine wp_iload_n k31_13 rfl rfl ?_
        refine wcvI (st2 := [_]) k31_14 (cw29 (S := S) h0) (by decide) rfl rfl rfl rfl h0.1.h h0.1.o (by decide) (fun x14 W14 g14 => ?_)
        have f14 := FR.t f4 g14
        refine wcsI (st2 := [_]) k31_17 (cw360 (S := S)) (by decide) rfl rfl rfl (by decide) (fun x17 W17 g17 => ?_)
        have f17 := FR.t f14 g17
        refine wp_iadd k31_20 ?_
        refine wp_istore_n (L1 := [_, _, _, _]) k31_21 rfl rfl ?_
        refine wp_iinc (L1 := [_, _, _, _]) 1 k31_22 rfl (by decide) rfl ?_
        refine wp_goto k31_25 ?_
        exact ih4 _ _ _ hd4 f17
  refine ev_of P31 rfl ?_
  refine wp_iconst 0 k31_0 (by decide) ?_
  refine wp_istore_n (L1 := [_, _, _, _]) k31_1 rfl rfl ?_
  refine wp_iconst 0 k31_2 (by decide) ?_
  refine wp_istore_n (L1 := [_, _, _, _]) k31_3 rfl rfl ?_
  exact j4 _ _ _ _ (Nat.lt_succ_self _) f0
theorem cw41 {S : ww_S} {sh : List mm_C} {V : hV} {p0 : Nat} (h0 : kKnow sh p0) {p1 : Int32} {p2 : Int32} : EVQ S 2 41 [.ref p0, .int p1, .int p2] (hH sh V) (wI sh V) := by
  have f0 := FR.r sh V
  have j5 : ∀ (m5 : Nat) (x3_5 : Int32) (x4_5 : Int32) (y5_5 : Option Value) (y6_5 : Option Value) (y7_5 : Option Value) (W5 : hV), mea x4_5 < m5 → FR sh V W5 → WP S 1 mm_m41 5 [some (.ref p0), some (.int p1), some (.int p2), some (.int x3_5), some (.int x4_5), y5_5, y6_5, y7_5] [] (hH sh W5) (wI sh V) := by
    intro m5
    induction m5 with
    | zero =>
      intro x3_5 x4_5 y5_5 y6_5 y7_5 W5 hm5 f5
      exact absurd hm5 (Nat.not_lt_zero _)
    | succ m5 ih5 =>
      intro x3_5 x4_5 y5_5 y6_5 y7_5 W5 hm5 f5
      have j113 : ∀ (x3_113 : Int32) (x5_113 : Int32) (y6_113 : Option Value) (y7_113 : Option Value) (W113 : hV), mea (x4_5 + 1) < m5 → FR sh V W113 → WP S 1 mm_m41 113 [some (.ref p0), some (.int p1), some (.int p2), some (.int x3_113), some (.int x4_5), some (.int x5_113), y6_113, y7_113] [] (hH sh W113) (wI sh V) := by
        intro x3_113 x5_113 y6_113 y7_113 W113 hd5 f113
        refine wp_iinc (L1 := [_, _, _, _, _, _, _, _]) 1 k41_113 rfl (by decide) rfl ?_
        refine wp_goto k41_116 ?_
        exact ih5 _ _ _ _ _ _ hd5 f113
      have j17 : ∀ (m17 : Nat) (x3_17 : Int32) (x5_17 : Int32) (y6_17 : Option Value) (y7_17 : Option Value) (W17 : hV), mea (x4_5 + 1) < m5 → mea x5_17 < m17 → FR sh V W17 → WP S 1 mm_m41 17 [some (.ref p0), some (.int p1), some (.int p2), some (.int x3_17), some (.int x4_5), some (.int x5_17), y6_17, y7_17] [] (hH sh W17) (wI sh V) := by
        intro m17
        induction m17 with
        | zero =>
          intro x3_17 x5_17 y6_17 y7_17 W17 hd5 hm17 f17
          exact absurd hm17 (Nat.not_lt_zero _)
        | succ m17 ih17 =>
          intro x3_17 x5_17 y6_17 y7_17 W17 hd5 hm17 f17
          have j84 : ∀ (x6_84 : Int32) (x7_84 : Int32) (xs0_84 : Int32) (xs1_84 : Int32) (xs2_84 : Int32) (W84 : hV), mea (x5_17 + 1) < m17 → FR sh V W84 → WP S 1 mm_m41 84 [some (.ref p0), some (.int p1), some (.int p2), some (.int x3_17), some (.int x4_5), some (.int x5_17), some (.int x6_84), some (.int x7_84)] [.int xs0_84, .int xs1_84, .int xs2_84, .ref (p0 + 1)] (hH sh W84) (wI sh V) := by
            intro x6_84 x7_84 xs0_84 xs1_84 xs2_84 W84 hd17 f84
            refine wp_iand k41_84 ?_
            refine wcsN (st2 := []) k41_85 (cw157 (S := S) h0.2 (by decide)) (by decide) rfl rfl rfl (by decide) (fun W85 g85 => ?_)
            have f85 := FR.t f84 g85
            refine wp_iload_n k41_88 rfl rfl ?_
            refine wp_iload k41_89 rfl rfl ?_
            refine wp_aload_n k41_91 rfl rfl ?_
            refine wp_iload k41_92 rfl rfl ?_
            refine wp_iload k41_94 rfl rfl ?_
            refine wcvI (st2 := [_, _]) k41_96 (cw29 (S := S) h0) (by decide) rfl rfl rfl rfl h0.1.h h0.1.o (by decide) (fun x96 W96 g96 => ?_)
            have f96 := FR.t f85 g96
            refine wp_iconst (-1) k41_99 (by decide) ?_
            refine wp_ixor k41_100 ?_
            refine wp_iand k41_101 ?_
            refine wcsI (st2 := [_]) k41_102 (cw360 (S := S)) (by decide) rfl rfl rfl (by decide) (fun x102 W102 g102 => ?_)
            have f102 := FR.t f96 g102
            refine wp_iadd k41_105 ?_
            refine wp_istore_n (L1 := [_, _, _, _, _, _, _, _]) k41_106 rfl rfl ?_
            refine wp_iinc (L1 := [_, _, _, _, _, _, _, _]) 1 k41_107 rfl (by decide) rfl ?_
            refine wp_goto k41_110 ?_
            exact ih17 _ _ _ _ _ hd5 hd17 f102
          refine wp_iload k41_17 rfl rfl ?_
          refine wp_bipush 32 k41_19 (by decide) ?_
          refine wp_if_icmp_ge k41_21 (fun c21 => ?_) (fun c21 => ?_)
          · exact j113 _ _ _ _ _ hd5 f17
          · have hd17 : mea (x5_17 + 1) < m17 := Nat.lt_of_lt_of_le (mea_s c21) (Nat.le_of_lt_succ hm17)
            refine wp_iload_n k41_24 rfl rfl ?_
            refine wp_iload k41_25 rfl rfl ?_
            refine wcsZ (st2 := []) k41_27 (cw159 (S := S)) (by decide) rfl rfl rfl (by decide) (fun b27 W27 g27 => ?_)
            have f27 := FR.t f17 g27
            refine wp_if_eq k41_30 (fun c30 => ?_) (fun c30 => ?_)
            · exact j113 _ _ _ _ _ hd5 f27
            · refine wp_iload k41_33 rfl rfl ?_
              refine wp_bipush 32 k41_35 (by decide) ?_
              refine wp_imul k41_37 ?_
              refine wp_iload k41_38 rfl rfl ?_
              refine wp_iadd k41_40 ?_
              refine wp_istore (L1 := [_, _, _, _, _, _, _, _]) k41_41 rfl rfl ?_
              refine wp_aload_n k41_43 rfl rfl ?_
              refine wp_iload k41_44 rfl rfl ?_
              refine wp_iload k41_46 rfl rfl ?_
              refine wcvI (st2 := []) k41_48 (cw29 (S := S) h0) (by decide) rfl rfl rfl rfl h0.1.h h0.1.o (by decide) (fun x48 W48 g48 => ?_)
              have f48 := FR.t f27 g48
              refine wp_istore (L1 := [_, _, _, _, _, _, _, _]) k41_51 rfl rfl ?_
              refine wp_aload_n k41_53 rfl rfl ?_
              refine wq_getR k41_54 h0.1 rfl ?_
              refine wp_iload k41_57 rfl rfl ?_
              refine wp_aload_n k41_59 rfl rfl ?_
              refine wq_getR k41_60 h0.1 rfl ?_
              refine wp_iload k41_63 rfl rfl ?_
              refine wcsI (st2 := [_, _]) k41_65 (cw156 (S := S) h0.2 (by decide)) (by decide) rfl rfl rfl (by decide) (fun x65 W65 g65 => ?_)
              have f65 := FR.t f48 g65
              refine wp_iload_n k41_68 rfl rfl ?_
              refine wp_iload k41_69 rfl rfl ?_
              refine wcsZ (st2 := [_, _, _]) k41_71 (cw159 (S := S)) (by decide) rfl rfl rfl (by decide) (fun b71 W71 g71 => ?_)
              have f71 := FR.t f65 g71
              refine wp_if_eq k41_74 (fun c74 => ?_) (fun c74 => ?_)
              · refine wp_iload_n k41_81 rfl rfl ?_
                refine wp_iconst (-1) k41_82 (by decide) ?_
                refine wp_ixor k41_83 ?_
                exact j84 _ _ _ _ _ _ hd17 f71
              · refine wp_iload_n k41_77 rfl rfl ?_
                refine wp_goto k41_78 ?_
                exact j84 _ _ _ _ _ _ hd17 f71
      refine wp_iload k41_5 rfl rfl ?_
      refine wp_aload_n k41_7 rfl rfl ?_
      refine wq_getI k41_8 h0.1 rfl ?_
      refine wp_if_icmp_ge k41_11 (fun c11 => ?_) (fun c11 => ?_)
      · refine wp_iload_n k41_119 rfl rfl ?_
        refine wp_iconst 2 k41_120 (by decide) ?_
        refine wp_idiv k41_121 (by decide) ?_
        exact wp_retI k41_122 rfl ⟨_, _, rfl, rfl, f5⟩
      · have hd5 : mea (x4_5 + 1) < m5 := Nat.lt_of_lt_of_le (mea_s c11) (Nat.le_of_lt_succ hm5)
        refine wp_iconst 0 k41_14 (by decide) ?_
        refine wp_istore (L1 := [_, _, _, _, _, _, _, _]) k41_15 rfl rfl ?_
        exact j17 _ _ _ _ _ _ hd5 (Nat.lt_succ_self _) f5
  refine ev_of P41 rfl ?_
  refine wp_iconst 0 k41_0 (by decide) ?_
  refine wp_istore_n (L1 := [_, _, _, _, _, _, _, _]) k41_1 rfl rfl ?_
  refine wp_iconst 0 k41_2 (by decide) ?_
  refine wp_istore (L1 := [_, _, _, _, _, _, _, _]) k41_3 rfl rfl ?_
  exact j5 _ _ _ _ _ _ _ (Nat.lt_succ_self _) f0
theorem cw26 {S : ww_S} {sh : List mm_C} {V : hV} {p0 : Nat} (h0 : kKnow sh p0) {p1 : Nat} (h1 : kScene sh p1) : EVQ S 2 26 [.ref p0, .ref p1] (hH sh V) (wN sh V) := by
  have f0 := FR.r sh V
  have j21 : ∀ (m21 : Nat) (x2_21 : Int32) (y3_21 : Option Value) (W21 : hV), mea x2_21 < m21 → FR sh V W21 → WP S 1 mm_m26 21 [some (.ref p0), some (.ref p1), some (.int x2_21), y3_21] [] (hH sh W21) (wN sh V) := by
    intro m21
    induction m21 with
    | zero =>
      intro x2_21 y3_21 W21 hm21 f21
      exact absurd hm21 (Nat.not_lt_zero _)
    | succ m21 ih21 =>
      intro x2_21 y3_21 W21 hm21 f21
      have j31 : ∀ (m31 : Nat) (x3_31 : Int32) (W31 : hV), mea (x2_21 + 1) < m21 → mea x3_31 < m31 → FR sh V W31 → WP S 1 mm_m26 31 [some (.ref p0), some (.ref p1), some (.int x2_21), some (.int x3_31)] [] (hH sh W31) (wN sh V) := by
        intro m31
        induction m31 with
        | zero =>
          intro x3_31 W31 hd21 hm31 f31
          exact absurd hm31 (Nat.not_lt_zero _)
        | succ m31 ih31 =>
          intro x3_31 W31 hd21 hm31 f31
          refine wp_iload_n k26_31 rfl rfl ?_
          refine wp_bipush 32 k26_32 (by decide) ?_
          refine wp_if_icmp_ge k26_34 (fun c34 => ?_) (fun c34 => ?_)
          · refine wp_iinc (L1 := [_, _, _, _]) 1 k26_68 rfl (by decide) rfl ?_
            refine wp_goto k26_71 ?_
            exact ih21 _ _ _ hd21 f31
          · have hd31 : mea (x3_31 + 1) < m31 := Nat.lt_of_lt_of_le (mea_s c34) (Nat.le_of_lt_succ hm31)
            refine wp_aload_n k26_37 rfl rfl ?_
            refine wq_getR k26_38 h0.1 rfl ?_
            refine wp_iload_n k26_41 rfl rfl ?_
            refine wp_bipush 32 k26_42 (by decide) ?_
            refine wp_imul k26_44 ?_
            refine wp_iload_n k26_45 rfl rfl ?_
            refine wp_iadd k26_46 ?_
            refine wp_iload_n k26_47 rfl rfl ?_
            refine wp_aload_n k26_48 rfl rfl ?_
            refine wq_getR k26_49 h1.1 rfl ?_
            refine wp_iload_n k26_52 rfl rfl ?_
            refine wcsI (st2 := [_, _, _]) k26_53 (cw156 (S := S) h1.2.2.2 (by decide)) (by decide) rfl rfl rfl (by decide) (fun x53 W53 g53 => ?_)
            have f53 := FR.t f31 g53
            refine wcsI (st2 := [_, _]) k26_56 (cw163 (S := S)) (by decide) rfl rfl rfl (by decide) (fun x56 W56 g56 => ?_)
            have f56 := FR.t f53 g56
            refine wcsN (st2 := []) k26_59 (cw157 (S := S) h0.2 (by decide)) (by decide) rfl rfl rfl (by decide) (fun W59 g59 => ?_)
            have f59 := FR.t f56 g59
            refine wp_iinc (L1 := [_, _, _, _]) 1 k26_62 rfl (by decide) rfl ?_
            refine wp_goto k26_65 ?_
            exact ih31 _ _ hd21 hd31 f59
      refine wp_iload_n k26_21 rfl rfl ?_
      refine wp_aload_n k26_22 rfl rfl ?_
      refine wq_getI k26_23 h0.1 rfl ?_
      refine wp_if_icmp_ge k26_26 (fun c26 => ?_) (fun c26 => ?_)
      · exact wp_retN k26_74 rfl ⟨_, rfl, rfl, f21⟩
      · have hd21 : mea (x2_21 + 1) < m21 := Nat.lt_of_lt_of_le (mea_s c26) (Nat.le_of_lt_succ hm21)
        refine wp_iconst 0 k26_29 (by decide) ?_
        refine wp_istore_n (L1 := [_, _, _, _]) k26_30 rfl rfl ?_
        exact j31 _ _ _ hd21 (Nat.lt_succ_self _) f21
  refine ev_of P26 rfl ?_
  refine wp_aload_n k26_0 rfl rfl ?_
  refine wp_aload_n k26_1 rfl rfl ?_
  refine wq_getI k26_2 h1.1 rfl ?_
  refine wq_putI k26_5 h0.1 rfl rfl rfl (Or.inr (by decide)) rfl (fun W5 g5 => ?_)
  have f5 := FR.t f0 g5
  refine wp_aload_n k26_8 rfl rfl ?_
  refine wp_aload_n k26_9 rfl rfl ?_
  refine wq_getR k26_10 h1.1 rfl ?_
  refine wq_getI k26_13 h1.2.2.1.1 rfl ?_
  refine wq_putI k26_16 h0.1 rfl rfl rfl (Or.inr (by decide)) rfl (fun W16 g16 => ?_)
  have f16 := FR.t f5 g16
  refine wp_iconst 0 k26_19 (by decide) ?_
  refine wp_istore_n (L1 := [_, _, _, _]) k26_20 rfl rfl ?_
  exact j21 _ _ _ _ (Nat.lt_succ_self _) f16
theorem cw47 {S : ww_S} {sh : List mm_C} {V : hV} {p0 n0 : Nat} (h0 : kA sh p0 n0) (b0 : n0 ≤ 100000) {p1 : Int32} (hn1 : 1 ≤ n0) : EVQ S 2 47 [.ref p0, .int p1] (hH sh V) (wN sh V) := by
  have f0 := FR.r sh V
  have j5 : ∀ (m5 : Nat) (x2_5 : Int32) (W5 : hV), (meb x2_5 < m5 ∧ x2_5 < Int32.ofNat n0) → FR sh V W5 → WP S 1 mm_m47 5 [some (.ref p0), some (.int p1), some (.int x2_5)] [] (hH sh W5) (wN sh V) := by
    intro m5
    induction m5 with
    | zero =>
      intro x2_5 W5 hm5 f5
      exact absurd hm5.1 (Nat.not_lt_zero _)
    | succ m5 ih5 =>
      intro x2_5 W5 hm5 f5
      refine wp_iload_n k47_5 rfl rfl ?_
      refine wp_if_le k47_6 (fun c6 => ?_) (fun c6 => ?_)
      · refine wp_aload_n k47_23 rfl rfl ?_
        refine wp_iconst 0 k47_24 (by decide) ?_
        refine wp_iload_n k47_25 rfl rfl ?_
        refine wcsN (st2 := []) k47_26 (cw157 (S := S) h0 b0) (by decide) rfl rfl rfl (by decide) (fun W26 g26 => ?_)
        have f26 := FR.t f5 g26
        exact wp_retN k47_29 rfl ⟨_, rfl, rfl, f26⟩
      · have hd5 : (meb (x2_5 + -1) < m5 ∧ (x2_5 + -1) < Int32.ofNat n0) := ⟨Nat.lt_of_lt_of_le (meb_s (pos_nn c6)) (Nat.le_of_lt_succ hm5.1), dec_lt c6 hm5.2⟩
        refine wp_aload_n k47_9 rfl rfl ?_
        refine wp_iload_n k47_10 rfl rfl ?_
        refine wp_aload_n k47_11 rfl rfl ?_
        refine wp_iload_n k47_12 rfl rfl ?_
        refine wp_iconst 1 k47_13 (by decide) ?_
        refine wp_isub k47_14 ?_
        refine wp_iaload k47_15 h0.h h0.o (in_of (pred_nn c6) (pred_lt c6 hm5.2) b0) _ rfl _ rfl ?_
        refine wq_iastore k47_16 h0 (in_of (pos_nn c6) hm5.2 b0) (fun W16 g16 => ?_)
        have f16 := FR.t f5 g16
        refine wp_iinc (L1 := [_, _, _]) (-1) k47_17 rfl (by decide) rfl ?_
        refine wp_goto k47_20 ?_
        exact ih5 _ _ hd5 f16
  refine ev_of P47 rfl ?_
  refine wp_aload_n k47_0 rfl rfl ?_
  refine wp_alen k47_1 rfl h0.h h0.o ?_
  refine wp_iconst 1 k47_2 (by decide) ?_
  refine wp_isub k47_3 ?_
  refine wp_istore_n (L1 := [_, _, _]) k47_4 rfl rfl ?_
  exact j5 _ _ _ ⟨Nat.lt_succ_self _, (pred_n hn1 b0)⟩ f0
theorem cw45 {S : ww_S} {sh : List mm_C} {V : hV} {p0 : Nat} (h0 : kLog sh p0) {p1 : Int32} {p2 : Int32} {p3 : Int32} {p4 : Int32} : EVQ S 3 45 [.ref p0, .int p1, .int p2, .int p3, .int p4] (hH sh V) (wN sh V) := by
  have f0 := FR.r sh V
  refine ev_of P45 rfl ?_
  refine wp_aload_n k45_0 rfl rfl ?_
  refine wq_getR k45_1 h0.1 rfl ?_
  refine wp_iload_n k45_4 rfl rfl ?_
  refine wcsN (st2 := []) k45_5 (cw47 (S := S) h0.2.1 (by decide) (by decide)) (by decide) rfl rfl rfl (by decide) (fun W5 g5 => ?_)
  have f5 := FR.t f0 g5
  refine wp_aload_n k45_8 rfl rfl ?_
  refine wq_getR k45_9 h0.1 rfl ?_
  refine wp_iload_n k45_12 rfl rfl ?_
  refine wcsN (st2 := []) k45_13 (cw47 (S := S) h0.2.2.1 (by decide) (by decide)) (by decide) rfl rfl rfl (by decide) (fun W13 g13 => ?_)
  have f13 := FR.t f5 g13
  refine wp_aload_n k45_16 rfl rfl ?_
  refine wq_getR k45_17 h0.1 rfl ?_
  refine wp_iload_n k45_20 rfl rfl ?_
  refine wcsN (st2 := []) k45_21 (cw47 (S := S) h0.2.2.2.1 (by decide) (by decide)) (by decide) rfl rfl rfl (by decide) (fun W21 g21 => ?_)
  have f21 := FR.t f13 g21
  refine wp_aload_n k45_24 rfl rfl ?_
  refine wp_aload_n k45_25 rfl rfl ?_
  refine wq_getI k45_26 h0.1 rfl ?_
  refine wp_iconst 1 k45_29 (by decide) ?_
  refine wp_iadd k45_30 ?_
  refine wp_bipush 20 k45_31 (by decide) ?_
  refine wp_min k45_33 rfl ?_
  refine wq_putI k45_36 h0.1 rfl rfl rfl (Or.inl (h0.1.n rfl)) rfl (fun W36 g36 => ?_)
  have f36 := FR.t f21 g36
  refine wp_aload_n k45_39 rfl rfl ?_
  refine wq_getR k45_40 h0.1 rfl ?_
  refine wp_iload_n k45_43 rfl rfl ?_
  refine wp_aload_n k45_44 rfl rfl ?_
  refine wq_getR k45_45 h0.1 rfl ?_
  refine wp_iload_n k45_48 rfl rfl ?_
  refine wcsI (st2 := [_, _]) k45_49 (cw156 (S := S) h0.2.2.2.2 (by decide)) (by decide) rfl rfl rfl (by decide) (fun x49 W49 g49 => ?_)
  have f49 := FR.t f36 g49
  refine wp_iconst 1 k45_52 (by decide) ?_
  refine wp_iadd k45_53 ?_
  refine wcsN (st2 := []) k45_54 (cw157 (S := S) h0.2.2.2.2 (by decide)) (by decide) rfl rfl rfl (by decide) (fun W54 g54 => ?_)
  have f54 := FR.t f49 g54
  refine wp_aload_n k45_57 rfl rfl ?_
  refine wq_getR k45_58 h0.1 rfl ?_
  refine wp_iconst 5 k45_61 (by decide) ?_
  refine wp_aload_n k45_62 rfl rfl ?_
  refine wq_getR k45_63 h0.1 rfl ?_
  refine wp_iconst 5 k45_66 (by decide) ?_
  refine wcsI (st2 := [_, _]) k45_67 (cw156 (S := S) h0.2.2.2.2 (by decide)) (by decide) rfl rfl rfl (by decide) (fun x67 W67 g67 => ?_)
  have f67 := FR.t f54 g67
  refine wp_iload_n k45_70 rfl rfl ?_
  refine wcsI (st2 := [_, _, _]) k45_71 (cw360 (S := S)) (by decide) rfl rfl rfl (by decide) (fun x71 W71 g71 => ?_)
  have f71 := FR.t f67 g71
  refine wp_iadd k45_74 ?_
  refine wcsN (st2 := []) k45_75 (cw157 (S := S) h0.2.2.2.2 (by decide)) (by decide) rfl rfl rfl (by decide) (fun W75 g75 => ?_)
  have f75 := FR.t f71 g75
  refine wp_aload_n k45_78 rfl rfl ?_
  refine wq_getR k45_79 h0.1 rfl ?_
  refine wp_bipush 6 k45_82 (by decide) ?_
  refine wp_aload_n k45_84 rfl rfl ?_
  refine wq_getR k45_85 h0.1 rfl ?_
  refine wp_bipush 6 k45_88 (by decide) ?_
  refine wcsI (st2 := [_, _]) k45_90 (cw156 (S := S) h0.2.2.2.2 (by decide)) (by decide) rfl rfl rfl (by decide) (fun x90 W90 g90 => ?_)
  have f90 := FR.t f75 g90
  refine wp_iload k45_93 rfl rfl ?_
  refine wp_iadd k45_95 ?_
  refine wcsN (st2 := []) k45_96 (cw157 (S := S) h0.2.2.2.2 (by decide)) (by decide) rfl rfl rfl (by decide) (fun W96 g96 => ?_)
  have f96 := FR.t f90 g96
  exact wp_retN k45_99 rfl ⟨_, rfl, rfl, f96⟩
theorem cw89 {S : ww_S} {sh : List mm_C} {V : hV} {p0 q0 : Nat} (h0 : kState sh p0 q0) : EVQ S 6 89 [.ref p0] (hH sh V) (wI sh V) := by
  have f0 := FR.r sh V
  refine ev_of P89 rfl ?_
  refine wp_aload_n k89_0 rfl rfl ?_
  refine wq_getR k89_1 h0.1 rfl ?_
  refine wp_aload_n k89_4 rfl rfl ?_
  refine wq_getR k89_5 h0.1 rfl ?_
  refine wcvI (st2 := []) k89_8 (cw11 (S := S) h0.2.2.1 h0.2.1) (by decide) rfl rfl rfl rfl h0.2.2.1.1.h h0.2.2.1.1.o (by decide) (fun x8 W8 g8 => ?_)
  have f8 := FR.t f0 g8
  exact wp_retI k89_11 rfl ⟨_, _, rfl, rfl, f8⟩
theorem cw91 {S : ww_S} {sh : List mm_C} {V : hV} {p0 q0 : Nat} (h0 : kState sh p0 q0) {p1 : Int32} {p2 : Int32} : EVQ S 3 91 [.ref p0, .int p1, .int p2] (hH sh V) (wI sh V) := by
  have f0 := FR.r sh V
  have j18 : ∀ (xs0_18 : Int32) (W18 : hV), FR sh V W18 → WP S 2 mm_m91 18 [some (.ref p0), some (.int p1), some (.int p2)] [.int xs0_18] (hH sh W18) (wI sh V) := by
    intro xs0_18 W18 f18
    exact wp_retI k91_18 rfl ⟨_, _, rfl, rfl, f18⟩
  refine ev_of P91 rfl ?_
  refine wp_iload_n k91_0 rfl rfl ?_
  refine wp_iconst (-1) k91_1 (by decide) ?_
  refine wp_if_icmp_ne k91_2 (fun c2 => ?_) (fun c2 => ?_)
  · refine wp_aload_n k91_9 rfl rfl ?_
    refine wq_getR k91_10 h0.1 rfl ?_
    refine wp_iload_n k91_13 rfl rfl ?_
    refine wp_iload_n k91_14 rfl rfl ?_
    refine wcvI (st2 := []) k91_15 (cw35 (S := S) h0.2.1) (by decide) rfl rfl rfl rfl h0.2.1.1.h h0.2.1.1.o (by decide) (fun x15 W15 g15 => ?_)
    have f15 := FR.t f0 g15
    exact j18 _ _ f15
  · refine wp_iload_n k91_5 rfl rfl ?_
    refine wp_goto k91_6 ?_
    exact j18 _ _ f0
theorem cw90 {S : ww_S} {sh : List mm_C} {V : hV} {p0 q0 : Nat} (h0 : kState sh p0 q0) {p1 : Int32} {p2 : Int32} : EVQ S 4 90 [.ref p0, .int p1, .int p2] (hH sh V) (wI sh V) := by
  have f0 := FR.r sh V
  have j40 : ∀ (xs0_40 : Int32) (W40 : hV), FR sh V W40 → WP S 3 mm_m90 40 [some (.ref p0), some (.int p1), some (.int p2)] [.int xs0_40] (hH sh W40) (wI sh V) := by
    intro xs0_40 W40 f40
    exact wp_retI k90_40 rfl ⟨_, _, rfl, rfl, f40⟩
  refine ev_of P90 rfl ?_
  refine wp_iload_n k90_0 rfl rfl ?_
  refine wp_aload_n k90_1 rfl rfl ?_
  refine wq_getR k90_2 h0.1 rfl ?_
  refine wq_getI k90_5 h0.2.2.2.2.1 rfl ?_
  refine wcsZ (st2 := []) k90_8 (cw159 (S := S)) (by decide) rfl rfl rfl (by decide) (fun b8 W8 g8 => ?_)
  have f8 := FR.t f0 g8
  refine wp_if_ne k90_11 (fun c11 => ?_) (fun c11 => ?_)
  · refine wp_aload_n k90_16 rfl rfl ?_
    refine wp_iload_n k90_17 rfl rfl ?_
    refine wp_iload_n k90_18 rfl rfl ?_
    refine wcvI (st2 := []) k90_19 (cw91 (S := S) h0) (by decide) rfl rfl rfl rfl h0.1.h h0.1.o (by decide) (fun x19 W19 g19 => ?_)
    have f19 := FR.t f8 g19
    refine wp_aload_n k90_22 rfl rfl ?_
    refine wq_getR k90_23 h0.1 rfl ?_
    refine wq_getI k90_26 h0.2.2.2.2.1 rfl ?_
    refine wcsZ (st2 := []) k90_29 (cw159 (S := S)) (by decide) rfl rfl rfl (by decide) (fun b29 W29 g29 => ?_)
    have f29 := FR.t f19 g29
    refine wp_if_eq k90_32 (fun c32 => ?_) (fun c32 => ?_)
    · refine wp_iconst 2 k90_39 (by decide) ?_
      exact j40 _ _ f29
    · refine wp_iconst 0 k90_35 (by decide) ?_
      refine wp_goto k90_36 ?_
      exact j40 _ _ f29
  · refine wp_iconst 1 k90_14 (by decide) ?_
    exact wp_retI k90_15 rfl ⟨_, _, rfl, rfl, f8⟩
theorem cw93 {S : ww_S} {sh : List mm_C} {V : hV} {p0 q0 : Nat} (h0 : kState sh p0 q0) {p1 : Int32} {p2 : Int32} {p3 : Int32} : EVQ S 4 93 [.ref p0, .int p1, .int p2, .int p3] (hH sh V) (wI sh V) := by
  have f0 := FR.r sh V
  refine ev_of P93 rfl ?_
  refine wp_aload_n k93_0 rfl rfl ?_
  refine wq_getR k93_1 h0.1 rfl ?_
  refine wp_iload_n k93_4 rfl rfl ?_
  refine wp_iload_n k93_5 rfl rfl ?_
  refine wcvI (st2 := []) k93_6 (cw41 (S := S) h0.2.1) (by decide) rfl rfl rfl rfl h0.2.1.1.h h0.2.1.1.o (by decide) (fun x6 W6 g6 => ?_)
  have f6 := FR.t f0 g6
  refine wp_istore (L1 := [_, _, _, _, _]) k93_9 rfl rfl ?_
  refine wp_aload_n k93_11 rfl rfl ?_
  refine wq_getR k93_12 h0.1 rfl ?_
  refine wp_iload_n k93_15 rfl rfl ?_
  refine wp_iload_n k93_16 rfl rfl ?_
  refine wp_iconst 0 k93_17 (by decide) ?_
  refine wp_iload k93_18 rfl rfl ?_
  refine wcvN (st2 := []) k93_20 (cw45 (S := S) h0.2.2.2.1) (by decide) rfl rfl rfl rfl h0.2.2.2.1.1.h h0.2.2.2.1.1.o (by decide) (fun W20 g20 => ?_)
  have f20 := FR.t f6 g20
  refine wp_iload k93_23 rfl rfl ?_
  exact wp_retI k93_25 rfl ⟨_, _, rfl, rfl, f20⟩
theorem cw96 {S : ww_S} {sh : List mm_C} {V : hV} {p0 q0 : Nat} (h0 : kState sh p0 q0) {p1 : Int32} {p2 : Int32} {p3 : Int32} : EVQ S 4 96 [.ref p0, .int p1, .int p2, .int p3] (hH sh V) (wN sh V) := by
  have f0 := FR.r sh V
  refine ev_of P96 rfl ?_
  refine wp_aload_n k96_0 rfl rfl ?_
  refine wq_getR k96_1 h0.1 rfl ?_
  refine wq_getI k96_4 h0.2.1.1 rfl ?_
  refine wp_iload_n k96_7 rfl rfl ?_
  refine wp_iconst (-1) k96_8 (by decide) ?_
  refine wp_ixor k96_9 ?_
  refine wp_iand k96_10 ?_
  refine wp_istore (L1 := [_, _, _, _, _]) k96_11 rfl rfl ?_
  refine wp_aload_n k96_13 rfl rfl ?_
  refine wq_getR k96_14 h0.1 rfl ?_
  refine wp_iload_n k96_17 rfl rfl ?_
  refine wq_putI k96_18 h0.2.1.1 rfl rfl rfl (Or.inr (by decide)) rfl (fun W18 g18 => ?_)
  have f18 := FR.t f0 g18
  refine wp_aload_n k96_21 rfl rfl ?_
  refine wq_getR k96_22 h0.1 rfl ?_
  refine wp_iload_n k96_25 rfl rfl ?_
  refine wp_iload_n k96_26 rfl rfl ?_
  refine wp_iload k96_27 rfl rfl ?_
  refine wp_iconst 0 k96_29 (by decide) ?_
  refine wcvN (st2 := []) k96_30 (cw45 (S := S) h0.2.2.2.1) (by decide) rfl rfl rfl rfl h0.2.2.2.1.1.h h0.2.2.2.1.1.o (by decide) (fun W30 g30 => ?_)
  have f30 := FR.t f18 g30
  exact wp_retN k96_33 rfl ⟨_, rfl, rfl, f30⟩
theorem cw92 {S : ww_S} {sh : List mm_C} {V : hV} {p0 q0 : Nat} (h0 : kState sh p0 q0) {p1 : Int32} {p2 : Int32} : EVQ S 5 92 [.ref p0, .int p1, .int p2] (hH sh V) (wN sh V) := by
  have f0 := FR.r sh V
  have j11 : ∀ (bs0_11 : Bool) (W11 : hV), FR sh V W11 → WP S 4 mm_m92 11 [some (.ref p0), some (.int p1), some (.int p2)] [.int (bI bs0_11), .ref p0] (hH sh W11) (wN sh V) := by
    intro bs0_11 W11 f11
    refine wp_iload_n k92_11 rfl rfl ?_
    refine wcsI (st2 := [_, _]) k92_12 (cw160 (S := S)) (by decide) rfl rfl rfl (by decide) (fun x12 W12 g12 => ?_)
    have f12 := FR.t f11 g12
    refine wp_aload_n k92_15 rfl rfl ?_
    refine wp_iload_n k92_16 rfl rfl ?_
    refine wp_iload_n k92_17 rfl rfl ?_
    refine wcvI (st2 := [_, _, _]) k92_18 (cw91 (S := S) h0) (by decide) rfl rfl rfl rfl h0.1.h h0.1.o (by decide) (fun x18 W18 g18 => ?_)
    have f18 := FR.t f12 g18
    refine wcvN (st2 := []) k92_21 (cw96 (S := S) h0) (by decide) rfl rfl rfl rfl h0.1.h h0.1.o (by decide) (fun W21 g21 => ?_)
    have f21 := FR.t f18 g21
    exact wp_retN k92_24 rfl ⟨_, rfl, rfl, f21⟩
  refine ev_of P92 rfl ?_
  refine wp_aload_n k92_0 rfl rfl ?_
  refine wp_iload_n k92_1 rfl rfl ?_
  refine wp_iconst (-1) k92_2 (by decide) ?_
  refine wp_if_icmp_ne k92_3 (fun c3 => ?_) (fun c3 => ?_)
  · refine wp_iconst 1 k92_10 (by decide) ?_
    exact j11 true _ f0
  · refine wp_iconst 0 k92_6 (by decide) ?_
    refine wp_goto k92_7 ?_
    exact j11 false _ f0
theorem cw94 {S : ww_S} {sh : List mm_C} {V : hV} {p0 q0 : Nat} (h0 : kState sh p0 q0) {p1 : Int32} : EVQ S 5 94 [.ref p0, .int p1] (hH sh V) (wI sh V) := by
  have f0 := FR.r sh V
  refine ev_of P94 rfl ?_
  refine wp_getstatic k94_0 rfl ?_
  refine wp_iload_n k94_3 rfl rfl ?_
  refine wcsI (st2 := []) k94_4 (cw156x (S := S)) (by decide) rfl rfl rfl (by decide) (fun x4 W4 g4 => ?_)
  have f4 := FR.t f0 g4
  refine wp_istore_n (L1 := [_, _, _, _]) k94_7 rfl rfl ?_
  refine wp_aload_n k94_8 rfl rfl ?_
  refine wq_getR k94_9 h0.1 rfl ?_
  refine wp_aload_n k94_12 rfl rfl ?_
  refine wq_getR k94_13 h0.1 rfl ?_
  refine wq_getI k94_16 h0.2.2.2.2.1 rfl ?_
  refine wp_iload_n k94_19 rfl rfl ?_
  refine wcvI (st2 := []) k94_20 (cw39 (S := S) h0.2.1) (by decide) rfl rfl rfl rfl h0.2.1.1.h h0.2.1.1.o (by decide) (fun x20 W20 g20 => ?_)
  have f20 := FR.t f4 g20
  refine wp_istore_n (L1 := [_, _, _, _]) k94_23 rfl rfl ?_
  refine wp_aload_n k94_24 rfl rfl ?_
  refine wp_iconst 4 k94_25 (by decide) ?_
  refine wp_iconst 0 k94_26 (by decide) ?_
  refine wp_aload_n k94_27 rfl rfl ?_
  refine wq_getR k94_28 h0.1 rfl ?_
  refine wp_iload_n k94_31 rfl rfl ?_
  refine wp_iload_n k94_32 rfl rfl ?_
  refine wcvI (st2 := [_, _, _]) k94_33 (cw40 (S := S) h0.2.1) (by decide) rfl rfl rfl rfl h0.2.1.1.h h0.2.1.1.o (by decide) (fun x33 W33 g33 => ?_)
  have f33 := FR.t f20 g33
  refine wcvN (st2 := []) k94_36 (cw96 (S := S) h0) (by decide) rfl rfl rfl rfl h0.1.h h0.1.o (by decide) (fun W36 g36 => ?_)
  have f36 := FR.t f33 g36
  refine wp_iload_n k94_39 rfl rfl ?_
  exact wp_retI k94_40 rfl ⟨_, _, rfl, rfl, f36⟩
theorem cw95 {S : ww_S} {sh : List mm_C} {V : hV} {p0 q0 : Nat} (h0 : kState sh p0 q0) {p1 : Nat} (h1 : kOrder sh p1) : EVQ S 6 95 [.ref p0, .ref p1] (hH sh V) (wZ sh V) := by
  have f0 := FR.r sh V
  have j119 : ∀ (x2_119 : Int32) (b3_119 : Bool) (W119 : hV), FR sh V W119 → WP S 5 mm_m95 119 [some (.ref p0), some (.ref p1), some (.int x2_119), some (.int (bI b3_119))] [] (hH sh W119) (wZ sh V) := by
    intro x2_119 b3_119 W119 f119
    refine wp_iload_n k95_119 rfl rfl ?_
    exact wp_retZ (b := b3_119) k95_120 rfl ⟨b3_119, _, rfl, rfl, f119⟩
  have j105 : ∀ (x2_105 : Int32) (bs0_105 : Bool) (W105 : hV), FR sh V W105 → WP S 5 mm_m95 105 [some (.ref p0), some (.ref p1), some (.int x2_105), none] [.int (bI bs0_105)] (hH sh W105) (wZ sh V) := by
    intro x2_105 bs0_105 W105 f105
    refine wp_istore_n (L1 := [_, _, _, _]) k95_105 rfl rfl ?_
    refine wp_iload_n k95_106 rfl rfl ?_
    refine wp_if_eq k95_107 (fun c107 => ?_) (fun c107 => ?_)
    · exact j119 _ bs0_105 _ f105
    · refine wp_aload_n k95_110 rfl rfl ?_
      refine wp_aload_n k95_111 rfl rfl ?_
      refine wq_getI k95_112 h1.1 rfl ?_
      refine wp_iload_n k95_115 rfl rfl ?_
      refine wcvN (st2 := []) k95_116 (cw92 (S := S) h0) (by decide) rfl rfl rfl rfl h0.1.h h0.1.o (by decide) (fun W116 g116 => ?_)
      have f116 := FR.t f105 g116
      exact j119 _ bs0_105 _ f116
  refine ev_of P95 rfl ?_
  refine wp_aload_n k95_0 rfl rfl ?_
  refine wp_ifnonnull_r k95_1 h1.1.h ?_
  refine wp_aload_n k95_6 rfl rfl ?_
  refine wq_getI k95_7 h1.1 rfl ?_
  refine wp_iconst 4 k95_10 (by decide) ?_
  refine wp_if_icmp_ne k95_11 (fun c11 => ?_) (fun c11 => ?_)
  · refine wp_aload_n k95_25 rfl rfl ?_
    refine wq_getI k95_26 h1.1 rfl ?_
    refine wp_iconst 3 k95_29 (by decide) ?_
    refine wp_if_icmp_ne k95_30 (fun c30 => ?_) (fun c30 => ?_)
    · refine wp_aload_n k95_55 rfl rfl ?_
      refine wq_getR k95_56 h1.1 rfl ?_
      refine wp_aload_n k95_59 rfl rfl ?_
      refine wq_getR k95_60 h0.1 rfl ?_
      refine wcvI (st2 := []) k95_63 (cw11 (S := S) h1.2 h0.2.1) (by decide) rfl rfl rfl rfl h1.2.1.h h1.2.1.o (by decide) (fun x63 W63 g63 => ?_)
      have f63 := FR.t f0 g63
      refine wp_istore_n (L1 := [_, _, _, _]) k95_66 rfl rfl ?_
      refine wp_aload_n k95_67 rfl rfl ?_
      refine wq_getI k95_68 h1.1 rfl ?_
      refine wp_iconst 2 k95_71 (by decide) ?_
      refine wp_if_icmp_ne k95_72 (fun c72 => ?_) (fun c72 => ?_)
      · refine wp_aload_n k95_88 rfl rfl ?_
        refine wp_aload_n k95_89 rfl rfl ?_
        refine wq_getI k95_90 h1.1 rfl ?_
        refine wp_iload_n k95_93 rfl rfl ?_
        refine wcvI (st2 := []) k95_94 (cw90 (S := S) h0) (by decide) rfl rfl rfl rfl h0.1.h h0.1.o (by decide) (fun x94 W94 g94 => ?_)
        have f94 := FR.t f63 g94
        refine wp_if_ne k95_97 (fun c97 => ?_) (fun c97 => ?_)
        · refine wp_iconst 0 k95_104 (by decide) ?_
          exact j105 _ false _ f94
        · refine wp_iconst 1 k95_100 (by decide) ?_
          refine wp_goto k95_101 ?_
          exact j105 _ true _ f94
      · refine wp_aload_n k95_75 rfl rfl ?_
        refine wp_iconst 2 k95_76 (by decide) ?_
        refine wp_aload_n k95_77 rfl rfl ?_
        refine wq_getI k95_78 h1.1 rfl ?_
        refine wp_iload_n k95_81 rfl rfl ?_
        refine wcvI (st2 := []) k95_82 (cw93 (S := S) h0) (by decide) rfl rfl rfl rfl h0.1.h h0.1.o (by decide) (fun x82 W82 g82 => ?_)
        have f82 := FR.t f63 g82
        refine wp_pop k95_85 rfl ?_
        refine wp_iconst 1 k95_86 (by decide) ?_
        exact wp_retZ (b := true) k95_87 rfl ⟨true, _, rfl, rfl, f82⟩
    · refine wp_aload_n k95_33 rfl rfl ?_
      refine wp_iconst 3 k95_34 (by decide) ?_
      refine wp_aload_n k95_35 rfl rfl ?_
      refine wq_getI k95_36 h1.1 rfl ?_
      refine wp_getstatic k95_39 rfl ?_
      refine wp_aload_n k95_42 rfl rfl ?_
      refine wq_getI k95_43 h1.1 rfl ?_
      refine wcsI (st2 := [_, _, _]) k95_46 (cw156x (S := S)) (by decide) rfl rfl rfl (by decide) (fun x46 W46 g46 => ?_)
      have f46 := FR.t f0 g46
      refine wcvI (st2 := []) k95_49 (cw93 (S := S) h0) (by decide) rfl rfl rfl rfl h0.1.h h0.1.o (by decide) (fun x49 W49 g49 => ?_)
      have f49 := FR.t f46 g49
      refine wp_pop k95_52 rfl ?_
      refine wp_iconst 1 k95_53 (by decide) ?_
      exact wp_retZ (b := true) k95_54 rfl ⟨true, _, rfl, rfl, f49⟩
  · refine wp_aload_n k95_14 rfl rfl ?_
    refine wp_aload_n k95_15 rfl rfl ?_
    refine wq_getI k95_16 h1.1 rfl ?_
    refine wcvI (st2 := []) k95_19 (cw94 (S := S) h0) (by decide) rfl rfl rfl rfl h0.1.h h0.1.o (by decide) (fun x19 W19 g19 => ?_)
    have f19 := FR.t f0 g19
    refine wp_pop k95_22 rfl ?_
    refine wp_iconst 1 k95_23 (by decide) ?_
    exact wp_retZ (b := true) k95_24 rfl ⟨true, _, rfl, rfl, f19⟩
theorem cw95n {S : ww_S} {sh : List mm_C} {V : hV} {p0 q0 : Nat} (h0 : kState sh p0 q0) : EVQ S 6 95 [.ref p0, .null] (hH sh V) (wZ sh V) := by
  have f0 := FR.r sh V
  refine ev_of P95 rfl ?_
  refine wp_aload_n k95_0 rfl rfl ?_
  refine wp_ifnonnull_n k95_1 ?_
  refine wp_iconst 0 k95_4 (by decide) ?_
  exact wp_retZ (b := false) k95_5 rfl ⟨false, _, rfl, rfl, f0⟩
theorem cw146 {S : ww_S} {sh : List mm_C} {V : hV} {q0 : Nat} (h0 : kWho sh q0) {p1 : Int32} : EVQ S 1 146 [.ref 64, .int p1] (hH sh V) (wT sh V 16) := by
  have f0 := FR.r sh V
  have j21 : ∀  (W21 : hV), FR sh V W21 → WP S 0 mm_m146 21 [some (.ref 64), some (.int p1)] [] (hH sh W21) (wT sh V 16) := by
    intro W21 f21
    exact wp_thr k146_21 rfl rfl ⟨_, f21, Or.inr ⟨rfl, rfl⟩⟩
  refine ev_of P146 rfl ?_
  refine wp_iload_n k146_0 rfl rfl ?_
  refine wp_if_lt k146_1 (fun c1 => ?_) (fun c1 => ?_)
  · exact j21  _ f0
  · refine wp_iload_n k146_4 rfl rfl ?_
    refine wp_aload_n k146_5 rfl rfl ?_
    refine wq_getR k146_6 h0.1 rfl ?_
    refine wq_getR k146_9 h0.2.2.2.2.1 rfl ?_
    refine wq_getR k146_12 h0.2.2.2.2.2.2.2.2.1 rfl ?_
    refine wq_getI k146_15 h0.2.2.2.2.2.2.2.2.2.2.1.1 rfl ?_
    refine wp_if_icmp_lt k146_18 (fun c18 => ?_) (fun c18 => ?_)
    · exact wp_retN k146_29 rfl ⟨_, f0, Or.inl ⟨rfl, rfl⟩⟩
    · exact j21  _ f0
theorem cw147 {S : ww_S} {sh : List mm_C} {V : hV} {q0 : Nat} (h0 : kWho sh q0) {p1 : Int32} : EVQ S 1 147 [.ref 64, .int p1] (hH sh V) (wT sh V 16) := by
  have f0 := FR.r sh V
  have j21 : ∀  (W21 : hV), FR sh V W21 → WP S 0 mm_m147 21 [some (.ref 64), some (.int p1)] [] (hH sh W21) (wT sh V 16) := by
    intro W21 f21
    exact wp_thr k147_21 rfl rfl ⟨_, f21, Or.inr ⟨rfl, rfl⟩⟩
  refine ev_of P147 rfl ?_
  refine wp_iload_n k147_0 rfl rfl ?_
  refine wp_if_lt k147_1 (fun c1 => ?_) (fun c1 => ?_)
  · exact j21  _ f0
  · refine wp_iload_n k147_4 rfl rfl ?_
    refine wp_aload_n k147_5 rfl rfl ?_
    refine wq_getR k147_6 h0.1 rfl ?_
    refine wq_getR k147_9 h0.2.2.2.2.1 rfl ?_
    refine wq_getR k147_12 h0.2.2.2.2.2.2.2.2.1 rfl ?_
    refine wq_getI k147_15 h0.2.2.2.2.2.2.2.2.2.1.1 rfl ?_
    refine wp_if_icmp_lt k147_18 (fun c18 => ?_) (fun c18 => ?_)
    · exact wp_retN k147_29 rfl ⟨_, f0, Or.inl ⟨rfl, rfl⟩⟩
    · exact j21  _ f0
theorem cw148 {S : ww_S} {sh : List mm_C} {V : hV} {q0 : Nat} (h0 : kWho sh q0) {p1 : Int32} : EVQ S 1 148 [.ref 64, .int p1] (hH sh V) (wT sh V 16) := by
  have f0 := FR.r sh V
  have j23 : ∀  (W23 : hV), FR sh V W23 → WP S 0 mm_m148 23 [some (.ref 64), some (.int p1)] [] (hH sh W23) (wT sh V 16) := by
    intro W23 f23
    exact wp_thr k148_23 rfl rfl ⟨_, f23, Or.inr ⟨rfl, rfl⟩⟩
  refine ev_of P148 rfl ?_
  refine wp_iload_n k148_0 rfl rfl ?_
  refine wp_if_lt k148_1 (fun c1 => ?_) (fun c1 => ?_)
  · exact j23  _ f0
  · refine wp_iload_n k148_4 rfl rfl ?_
    refine wp_iconst 1 k148_5 (by decide) ?_
    refine wp_aload_n k148_6 rfl rfl ?_
    refine wq_getR k148_7 h0.1 rfl ?_
    refine wq_getR k148_10 h0.2.2.2.2.1 rfl ?_
    refine wq_getR k148_13 h0.2.2.2.2.2.2.2.2.1 rfl ?_
    refine wq_getI k148_16 h0.2.2.2.2.2.2.2.2.2.1.1 rfl ?_
    refine wp_ishl k148_19 ?_
    refine wp_if_icmp_lt k148_20 (fun c20 => ?_) (fun c20 => ?_)
    · exact wp_retN k148_31 rfl ⟨_, f0, Or.inl ⟨rfl, rfl⟩⟩
    · exact j23  _ f0
theorem cw149 {S : ww_S} {sh : List mm_C} {V : hV} {q0 : Nat} (h0 : kWho sh q0) {p1 : Int32} : EVQ S 2 149 [.ref 64, .int p1] (hH sh V) (wT sh V 15) := by
  have f0 := FR.r sh V
  refine ev_of P149 rfl ?_
  refine wp_iload_n k149_0 rfl rfl ?_
  refine wp_aload_n k149_1 rfl rfl ?_
  refine wq_getR k149_2 h0.1 rfl ?_
  refine wq_getR k149_5 h0.2.2.2.2.1 rfl ?_
  refine wq_getR k149_8 h0.2.2.2.2.2.2.2.2.1 rfl ?_
  refine wq_getI k149_11 h0.2.2.2.2.2.2.2.2.2.2.1.1 rfl ?_
  refine wcsI (st2 := [_]) k149_14 (cw161 (S := S)) (by decide) rfl rfl rfl (by decide) (fun x14 W14 g14 => ?_)
  have f14 := FR.t f0 g14
  refine wp_iconst (-1) k149_17 (by decide) ?_
  refine wp_ixor k149_18 ?_
  refine wp_iand k149_19 ?_
  refine wp_if_eq k149_20 (fun c20 => ?_) (fun c20 => ?_)
  · exact wp_retN k149_31 rfl ⟨_, f14, Or.inl ⟨rfl, rfl⟩⟩
  · exact wp_thr k149_23 rfl rfl ⟨_, f14, Or.inr ⟨rfl, rfl⟩⟩
theorem cw153 {S : ww_S} {sh : List mm_C} {V : hV} {q0 : Nat} (h0 : kWho sh q0) {p1 : Int32} {p2 : Int32} : EVQ S 5 153 [.ref 64, .int p1, .int p2] (hH sh V) (wI sh V) := by
  have f0 := FR.r sh V
  have j31 : ∀ (x3_31 : Int32) (xs0_31 : Int32) (W31 : hV), FR sh V W31 → WP S 4 mm_m153 31 [some (.ref 64), some (.int p1), some (.int p2), some (.int x3_31)] [.int xs0_31] (hH sh W31) (wI sh V) := by
    intro x3_31 xs0_31 W31 f31
    exact wp_retI k153_31 rfl ⟨_, _, rfl, rfl, f31⟩
  refine ev_of P153 rfl ?_
  refine wp_aload_n k153_0 rfl rfl ?_
  refine wq_getR k153_1 h0.1 rfl ?_
  refine wp_iload_n k153_4 rfl rfl ?_
  refine wp_iload_n k153_5 rfl rfl ?_
  refine wcvI (st2 := []) k153_6 (cw90 (S := S) h0.2.2.2.2) (by decide) rfl rfl rfl rfl (by decide) h0.2.2.2.2.1.o (by decide) (fun x6 W6 g6 => ?_)
  have f6 := FR.t f0 g6
  refine wp_istore_n (L1 := [_, _, _, _]) k153_9 rfl rfl ?_
  refine wp_iload_n k153_10 rfl rfl ?_
  refine wp_if_eq k153_11 (fun c11 => ?_) (fun c11 => ?_)
  · refine wp_aload_n k153_19 rfl rfl ?_
    refine wq_getR k153_20 h0.1 rfl ?_
    refine wp_iload_n k153_23 rfl rfl ?_
    refine wp_iload_n k153_24 rfl rfl ?_
    refine wcvI (st2 := []) k153_25 (cw91 (S := S) h0.2.2.2.2) (by decide) rfl rfl rfl rfl (by decide) h0.2.2.2.2.1.o (by decide) (fun x25 W25 g25 => ?_)
    have f25 := FR.t f6 g25
    refine wcsI (st2 := []) k153_28 (cw360 (S := S)) (by decide) rfl rfl rfl (by decide) (fun x28 W28 g28 => ?_)
    have f28 := FR.t f25 g28
    exact j31 _ _ _ f28
  · refine wp_iload_n k153_14 rfl rfl ?_
    refine wp_ineg k153_15 ?_
    refine wp_goto k153_16 ?_
    exact j31 _ _ _ f6
theorem cw103 {S : ww_S} {sh : List mm_C} {V : hV} {q0 : Nat} (h0 : kWho sh q0) : EVQ S 1 103 [.ref 64] (hH sh V) (wI sh V) := by
  have f0 := FR.r sh V
  refine ev_of P103 rfl ?_
  refine wp_aload_n k103_0 rfl rfl ?_
  refine wq_getR k103_1 h0.1 rfl ?_
  refine wq_getI k103_4 h0.2.1.2.1.1 rfl ?_
  exact wp_retI k103_7 rfl ⟨_, _, rfl, rfl, f0⟩
theorem cw104 {S : ww_S} {sh : List mm_C} {V : hV} {q0 : Nat} (h0 : kWho sh q0) : EVQ S 1 104 [.ref 64] (hH sh V) (wI sh V) := by
  have f0 := FR.r sh V
  refine ev_of P104 rfl ?_
  refine wp_aload_n k104_0 rfl rfl ?_
  refine wq_getR k104_1 h0.1 rfl ?_
  refine wq_getI k104_4 h0.2.1.2.1.1 rfl ?_
  exact wp_retI k104_7 rfl ⟨_, _, rfl, rfl, f0⟩
theorem cw105 {S : ww_S} {sh : List mm_C} {V : hV} {q0 : Nat} (h0 : kWho sh q0) {p1 : Int32} : EVQ S 3 105 [.ref 64, .int p1] (hH sh V) (wP sh V 15) := by
  have f0 := FR.r sh V
  refine ev_of P105 rfl ?_
  refine wp_iload_n k105_0 rfl rfl ?_
  refine wp_tsw k105_1 (fun i9 t9 g9 e9 => ?_) (fun c1 => ?_) (by decide)
  · have b9 : i9 < 10 := (List.getElem?_eq_some_iff.mp g9).1
    obtain rfl | rfl | rfl | rfl | rfl | rfl | rfl | rfl | rfl | rfl : i9 = 0 ∨ i9 = 1 ∨ i9 = 2 ∨ i9 = 3 ∨ i9 = 4 ∨ i9 = 5 ∨ i9 = 6 ∨ i9 = 7 ∨ i9 = 8 ∨ i9 = 9 := by omega
    · cases g9
      refine wp_aload_n k105_56 rfl rfl ?_
      refine wq_getR k105_57 h0.1 rfl ?_
      refine wq_getR k105_60 h0.2.2.2.2.1 rfl ?_
      refine wq_getR k105_63 h0.2.2.2.2.2.2.2.2.1 rfl ?_
      refine wq_getI k105_66 h0.2.2.2.2.2.2.2.2.2.1.1 rfl ?_
      exact wp_retI k105_69 rfl ⟨_, f0, Or.inl ⟨_, rfl, rfl⟩⟩
    · cases g9
      refine wp_aload_n k105_70 rfl rfl ?_
      refine wq_getR k105_71 h0.1 rfl ?_
      refine wq_getR k105_74 h0.2.2.2.2.1 rfl ?_
      refine wq_getR k105_77 h0.2.2.2.2.2.2.2.2.1 rfl ?_
      refine wq_getI k105_80 h0.2.2.2.2.2.2.2.2.2.2.1.1 rfl ?_
      exact wp_retI k105_83 rfl ⟨_, f0, Or.inl ⟨_, rfl, rfl⟩⟩
    · cases g9
      refine wp_aload_n k105_84 rfl rfl ?_
      refine wq_getR k105_85 h0.1 rfl ?_
      refine wq_getR k105_88 h0.2.2.2.2.1 rfl ?_
      refine wcvI (st2 := []) k105_91 (cw28 (S := S) h0.2.2.2.2.2.1) (by decide) rfl rfl rfl rfl h0.2.2.2.2.2.1.1.h h0.2.2.2.2.2.1.1.o (by decide) (fun x91 W91 g91 => ?_)
      have f91 := FR.t f0 g91
      exact wp_retI k105_94 rfl ⟨_, f91, Or.inl ⟨_, rfl, rfl⟩⟩
    · cases g9
      refine wp_aload_n k105_95 rfl rfl ?_
      refine wq_getR k105_96 h0.1 rfl ?_
      refine wq_getR k105_99 h0.2.2.2.2.1 rfl ?_
      refine wq_getI k105_102 h0.2.2.2.2.2.2.2.2.1 rfl ?_
      refine wcsI (st2 := []) k105_105 (cw360 (S := S)) (by decide) rfl rfl rfl (by decide) (fun x105 W105 g105 => ?_)
      have f105 := FR.t f0 g105
      exact wp_retI k105_108 rfl ⟨_, f105, Or.inl ⟨_, rfl, rfl⟩⟩
    · cases g9
      refine wp_aload_n k105_109 rfl rfl ?_
      refine wq_getR k105_110 h0.1 rfl ?_
      refine wq_getR k105_113 h0.2.2.2.2.1 rfl ?_
      refine wq_getI k105_116 h0.2.2.2.2.2.2.2.2.1 rfl ?_
      exact wp_retI k105_119 rfl ⟨_, f0, Or.inl ⟨_, rfl, rfl⟩⟩
    · cases g9
      refine wp_aload_n k105_120 rfl rfl ?_
      refine wq_getR k105_121 h0.1 rfl ?_
      refine wq_getR k105_124 h0.2.2.2.2.1 rfl ?_
      refine wq_getI k105_127 h0.2.2.2.2.2.2.1.1 rfl ?_
      exact wp_retI k105_130 rfl ⟨_, f0, Or.inl ⟨_, rfl, rfl⟩⟩
    · cases g9
      refine wp_aload_n k105_131 rfl rfl ?_
      refine wq_getR k105_132 h0.1 rfl ?_
      refine wq_getR k105_135 h0.2.2.2.2.1 rfl ?_
      refine wcvI (st2 := []) k105_138 (cw12 (S := S) h0.2.2.2.2.2.2.1) (by decide) rfl rfl rfl rfl h0.2.2.2.2.2.2.1.1.h h0.2.2.2.2.2.2.1.1.o (by decide) (fun x138 W138 g138 => ?_)
      have f138 := FR.t f0 g138
      exact wp_retI k105_141 rfl ⟨_, f138, Or.inl ⟨_, rfl, rfl⟩⟩
    · cases g9
      refine wp_aload_n k105_142 rfl rfl ?_
      refine wq_getR k105_143 h0.1 rfl ?_
      refine wq_getR k105_146 h0.2.2.2.2.1 rfl ?_
      refine wq_getI k105_149 h0.2.2.2.2.2.2.2.2.1 rfl ?_
      exact wp_retI k105_152 rfl ⟨_, f0, Or.inl ⟨_, rfl, rfl⟩⟩
    · cases g9
      refine wp_aload_n k105_153 rfl rfl ?_
      refine wq_getR k105_154 h0.1 rfl ?_
      refine wq_getR k105_157 h0.2.2.2.2.1 rfl ?_
      refine wq_getI k105_160 h0.2.2.2.2.2.2.2.1.1 rfl ?_
      exact wp_retI k105_163 rfl ⟨_, f0, Or.inl ⟨_, rfl, rfl⟩⟩
    · cases g9
      refine wp_aload_n k105_164 rfl rfl ?_
      refine wq_getI k105_165 h0.1 rfl ?_
      exact wp_retI k105_168 rfl ⟨_, f0, Or.inl ⟨_, rfl, rfl⟩⟩
  · exact wp_thr k105_169 rfl rfl ⟨_, f0, Or.inr ⟨rfl, rfl⟩⟩
theorem cw106 {S : ww_S} {sh : List mm_C} {V : hV} {q0 : Nat} (h0 : kWho sh q0) {p1 : Int32} {p2 : Int32} {p3 : Int32} : EVQ S 3 106 [.ref 64, .int p1, .int p2, .int p3] (hH sh V) (wP sh V 16) := by
  have f0 := FR.r sh V
  have j42 : ∀ (a4_42 : Nat) (ha4_42 : kNames sh a4_42) (W42 : hV), FR sh V W42 → WP S 2 mm_m106 42 [some (.ref 64), some (.int p1), some (.int p2), some (.int p3), some (.ref a4_42)] [] (hH sh W42) (wP sh V 16) := by
    intro a4_42 ha4_42 W42 f42
    exact wp_thr k106_42 rfl rfl ⟨_, f42, Or.inr ⟨rfl, rfl⟩⟩
  have j27 : ∀ (as0_27 : Nat) (has0_27 : kNames sh as0_27) (W27 : hV), FR sh V W27 → WP S 2 mm_m106 27 [some (.ref 64), some (.int p1), some (.int p2), some (.int p3), none] [.ref as0_27] (hH sh W27) (wP sh V 16) := by
    intro as0_27 has0_27 W27 f27
    refine wp_astore (L1 := [_, _, _, _, _]) k106_27 rfl rfl ?_
    refine wp_iload_n k106_29 rfl rfl ?_
    refine wp_if_lt k106_30 (fun c30 => ?_) (fun c30 => ?_)
    · exact j42 _ has0_27 _ f27
    · refine wp_iload_n k106_33 rfl rfl ?_
      refine wp_aload k106_34 rfl rfl ?_
      refine wq_getI k106_36 has0_27.1 rfl ?_
      refine wp_if_icmp_lt k106_39 (fun c39 => ?_) (fun c39 => ?_)
      · refine wp_aload k106_50 rfl rfl ?_
        refine wp_iload_n k106_52 rfl rfl ?_
        refine wp_iload_n k106_53 rfl rfl ?_
        refine wcvI (st2 := []) k106_54 (cw52 (S := S) has0_27) (by decide) rfl rfl rfl rfl has0_27.1.h has0_27.1.o (by decide) (fun x54 W54 g54 => ?_)
        have f54 := FR.t f27 g54
        exact wp_retI k106_57 rfl ⟨_, f54, Or.inl ⟨_, rfl, rfl⟩⟩
      · exact j42 _ has0_27 _ f27
  refine ev_of P106 rfl ?_
  refine wp_iload_n k106_0 rfl rfl ?_
  refine wp_if_eq k106_1 (fun c1 => ?_) (fun c1 => ?_)
  · refine wp_aload_n k106_17 rfl rfl ?_
    refine wq_getR k106_18 h0.1 rfl ?_
    refine wq_getR k106_21 h0.2.2.2.2.1 rfl ?_
    refine wq_getR k106_24 h0.2.2.2.2.2.2.2.2.1 rfl ?_
    exact j27 _ h0.2.2.2.2.2.2.2.2.2.1 _ f0
  · refine wp_aload_n k106_4 rfl rfl ?_
    refine wq_getR k106_5 h0.1 rfl ?_
    refine wq_getR k106_8 h0.2.2.2.2.1 rfl ?_
    refine wq_getR k106_11 h0.2.2.2.2.2.2.2.2.1 rfl ?_
    refine wp_goto k106_14 ?_
    exact j27 _ h0.2.2.2.2.2.2.2.2.2.2.1 _ f0
theorem cw107 {S : ww_S} {sh : List mm_C} {V : hV} {q0 : Nat} (h0 : kWho sh q0) {p1 : Int32} : EVQ S 2 107 [.ref 64, .int p1] (hH sh V) (wP sh V 16) := by
  have f0 := FR.r sh V
  refine ev_of P107 rfl ?_
  refine wp_aload_n k107_0 rfl rfl ?_
  refine wp_iload_n k107_1 rfl rfl ?_
  refine wcvT (st2 := []) k107_2 (cw146 (S := S) h0) (by decide) rfl rfl rfl rfl (by decide) h0.1.o (by decide) rfl (fun W2 g2 => ?_) (fun W2 g2 => ?_)
  rotate_left 1
  · have f2 := FR.t f0 g2
    exact ⟨_, f2, Or.inr ⟨rfl, rfl⟩⟩
  have f2 := FR.t f0 g2
  refine wp_aload_n k107_5 rfl rfl ?_
  refine wq_getR k107_6 h0.1 rfl ?_
  refine wq_getR k107_9 h0.2.2.2.2.1 rfl ?_
  refine wq_getR k107_12 h0.2.2.2.2.2.2.2.2.1 rfl ?_
  refine wp_iload_n k107_15 rfl rfl ?_
  refine wcsI (st2 := []) k107_16 (cw156 (S := S) h0.2.2.2.2.2.2.2.2.2.2.2 (by decide)) (by decide) rfl rfl rfl (by decide) (fun x16 W16 g16 => ?_)
  have f16 := FR.t f2 g16
  exact wp_retI k107_19 rfl ⟨_, f16, Or.inl ⟨_, rfl, rfl⟩⟩
theorem cw108 {S : ww_S} {sh : List mm_C} {V : hV} {q0 : Nat} (h0 : kWho sh q0) : EVQ S 1 108 [.ref 64] (hH sh V) (wI sh V) := by
  have f0 := FR.r sh V
  refine ev_of P108 rfl ?_
  refine wp_aload_n k108_0 rfl rfl ?_
  refine wq_getR k108_1 h0.1 rfl ?_
  refine wq_getR k108_4 h0.2.2.2.2.1 rfl ?_
  refine wq_getI k108_7 h0.2.2.2.2.2.1.1 rfl ?_
  exact wp_retI k108_10 rfl ⟨_, _, rfl, rfl, f0⟩
theorem cw109 {S : ww_S} {sh : List mm_C} {V : hV} {q0 : Nat} (h0 : kWho sh q0) {p1 : Int32} {p2 : Int32} : EVQ S 2 109 [.ref 64, .int p1, .int p2] (hH sh V) (wP sh V 16) := by
  have f0 := FR.r sh V
  refine ev_of P109 rfl ?_
  refine wp_aload_n k109_0 rfl rfl ?_
  refine wp_iload_n k109_1 rfl rfl ?_
  refine wcvT (st2 := []) k109_2 (cw146 (S := S) h0) (by decide) rfl rfl rfl rfl (by decide) h0.1.o (by decide) rfl (fun W2 g2 => ?_) (fun W2 g2 => ?_)
  rotate_left 1
  · have f2 := FR.t f0 g2
    exact ⟨_, f2, Or.inr ⟨rfl, rfl⟩⟩
  have f2 := FR.t f0 g2
  refine wp_aload_n k109_5 rfl rfl ?_
  refine wp_iload_n k109_6 rfl rfl ?_
  refine wcvT (st2 := []) k109_7 (cw148 (S := S) h0) (by decide) rfl rfl rfl rfl (by decide) h0.1.o (by decide) rfl (fun W7 g7 => ?_) (fun W7 g7 => ?_)
  rotate_left 1
  · have f7 := FR.t f2 g7
    exact ⟨_, f7, Or.inr ⟨rfl, rfl⟩⟩
  have f7 := FR.t f2 g7
  refine wp_aload_n k109_10 rfl rfl ?_
  refine wq_getR k109_11 h0.1 rfl ?_
  refine wq_getR k109_14 h0.2.2.2.2.1 rfl ?_
  refine wp_iload_n k109_17 rfl rfl ?_
  refine wp_iload_n k109_18 rfl rfl ?_
  refine wcvI (st2 := []) k109_19 (cw29 (S := S) h0.2.2.2.2.2.1) (by decide) rfl rfl rfl rfl h0.2.2.2.2.2.1.1.h h0.2.2.2.2.2.1.1.o (by decide) (fun x19 W19 g19 => ?_)
  have f19 := FR.t f7 g19
  exact wp_retI k109_22 rfl ⟨_, f19, Or.inl ⟨_, rfl, rfl⟩⟩
theorem cw110 {S : ww_S} {sh : List mm_C} {V : hV} {q0 : Nat} (h0 : kWho sh q0) {p1 : Int32} : EVQ S 3 110 [.ref 64, .int p1] (hH sh V) (wP sh V 16) := by
  have f0 := FR.r sh V
  have j9 : ∀ (m9 : Nat) (x2_9 : Int32) (x3_9 : Int32) (W9 : hV), mea x3_9 < m9 → FR sh V W9 → WP S 2 mm_m110 9 [some (.ref 64), some (.int p1), some (.int x2_9), some (.int x3_9)] [] (hH sh W9) (wP sh V 16) := by
    intro m9
    induction m9 with
    | zero =>
      intro x2_9 x3_9 W9 hm9 f9
      exact absurd hm9 (Nat.not_lt_zero _)
    | succ m9 ih9 =>
      intro x2_9 x3_9 W9 hm9 f9
      have j33 : ∀ (x2_33 : Int32) (W33 : hV), mea (x3_9 + 1) < m9 → FR sh V W33 → WP S 2 mm_m110 33 [some (.ref 64), some (.int p1), some (.int x2_33), some (.int x3_9)] [] (hH sh W33) (wP sh V 16) := by
        intro x2_33 W33 hd9 f33
        refine wp_iinc (L1 := [_, _, _, _]) 1 k110_33 rfl (by decide) rfl ?_
        refine wp_goto k110_36 ?_
        exact ih9 _ _ _ hd9 f33
      refine wp_iload_n k110_9 rfl rfl ?_
      refine wp_bipush 32 k110_10 (by decide) ?_
      refine wp_if_icmp_ge k110_12 (fun c12 => ?_) (fun c12 => ?_)
      · refine wp_iload_n k110_39 rfl rfl ?_
        exact wp_retI k110_40 rfl ⟨_, f9, Or.inl ⟨_, rfl, rfl⟩⟩
      · have hd9 : mea (x3_9 + 1) < m9 := Nat.lt_of_lt_of_le (mea_s c12) (Nat.le_of_lt_succ hm9)
        refine wp_aload_n k110_15 rfl rfl ?_
        refine wq_getR k110_16 h0.1 rfl ?_
        refine wq_getR k110_19 h0.2.2.2.2.1 rfl ?_
        refine wp_iload_n k110_22 rfl rfl ?_
        refine wp_iload_n k110_23 rfl rfl ?_
        refine wcvZ (st2 := []) k110_24 (cw30 (S := S) h0.2.2.2.2.2.1) (by decide) rfl rfl rfl rfl h0.2.2.2.2.2.1.1.h h0.2.2.2.2.2.1.1.o (by decide) (fun b24 W24 g24 => ?_)
        have f24 := FR.t f9 g24
        refine wp_if_eq k110_27 (fun c27 => ?_) (fun c27 => ?_)
        · exact j33 _ _ hd9 f24
        · refine wp_iinc (L1 := [_, _, _, _]) 1 k110_30 rfl (by decide) rfl ?_
          exact j33 _ _ hd9 f24
  refine ev_of P110 rfl ?_
  refine wp_aload_n k110_0 rfl rfl ?_
  refine wp_iload_n k110_1 rfl rfl ?_
  refine wcvT (st2 := []) k110_2 (cw146 (S := S) h0) (by decide) rfl rfl rfl rfl (by decide) h0.1.o (by decide) rfl (fun W2 g2 => ?_) (fun W2 g2 => ?_)
  rotate_left 1
  · have f2 := FR.t f0 g2
    exact ⟨_, f2, Or.inr ⟨rfl, rfl⟩⟩
  have f2 := FR.t f0 g2
  refine wp_iconst 0 k110_5 (by decide) ?_
  refine wp_istore_n (L1 := [_, _, _, _]) k110_6 rfl rfl ?_
  refine wp_iconst 0 k110_7 (by decide) ?_
  refine wp_istore_n (L1 := [_, _, _, _]) k110_8 rfl rfl ?_
  exact j9 _ _ _ _ (Nat.lt_succ_self _) f2
theorem cw111 {S : ww_S} {sh : List mm_C} {V : hV} {q0 : Nat} (h0 : kWho sh q0) {p1 : Int32} : EVQ S 3 111 [.ref 64, .int p1] (hH sh V) (wP sh V 16) := by
  have f0 := FR.r sh V
  refine ev_of P111 rfl ?_
  refine wp_aload_n k111_0 rfl rfl ?_
  refine wp_iload_n k111_1 rfl rfl ?_
  refine wcvT (st2 := []) k111_2 (cw146 (S := S) h0) (by decide) rfl rfl rfl rfl (by decide) h0.1.o (by decide) rfl (fun W2 g2 => ?_) (fun W2 g2 => ?_)
  rotate_left 1
  · have f2 := FR.t f0 g2
    exact ⟨_, f2, Or.inr ⟨rfl, rfl⟩⟩
  have f2 := FR.t f0 g2
  refine wp_aload_n k111_5 rfl rfl ?_
  refine wq_getR k111_6 h0.1 rfl ?_
  refine wq_getR k111_9 h0.2.2.2.2.1 rfl ?_
  refine wp_iload_n k111_12 rfl rfl ?_
  refine wcvI (st2 := []) k111_13 (cw31 (S := S) h0.2.2.2.2.2.1) (by decide) rfl rfl rfl rfl h0.2.2.2.2.2.1.1.h h0.2.2.2.2.2.1.1.o (by decide) (fun x13 W13 g13 => ?_)
  have f13 := FR.t f2 g13
  refine wp_aload_n k111_16 rfl rfl ?_
  refine wq_getR k111_17 h0.1 rfl ?_
  refine wq_getR k111_20 h0.2.2.2.2.1 rfl ?_
  refine wcvI (st2 := [_]) k111_23 (cw28 (S := S) h0.2.2.2.2.2.1) (by decide) rfl rfl rfl rfl h0.2.2.2.2.2.1.1.h h0.2.2.2.2.2.1.1.o (by decide) (fun x23 W23 g23 => ?_)
  have f23 := FR.t f13 g23
  refine wp_isub k111_26 ?_
  refine wp_iconst 2 k111_27 (by decide) ?_
  refine wp_idiv k111_28 (by decide) ?_
  exact wp_retI k111_29 rfl ⟨_, f23, Or.inl ⟨_, rfl, rfl⟩⟩
theorem cw112 {S : ww_S} {sh : List mm_C} {V : hV} {q0 : Nat} (h0 : kWho sh q0) {p1 : Int32} : EVQ S 4 112 [.ref 64, .int p1] (hH sh V) (wP sh V 16) := by
  have f0 := FR.r sh V
  refine ev_of P112 rfl ?_
  refine wp_aload_n k112_0 rfl rfl ?_
  refine wp_iload_n k112_1 rfl rfl ?_
  refine wcvT (st2 := []) k112_2 (cw148 (S := S) h0) (by decide) rfl rfl rfl rfl (by decide) h0.1.o (by decide) rfl (fun W2 g2 => ?_) (fun W2 g2 => ?_)
  rotate_left 1
  · have f2 := FR.t f0 g2
    exact ⟨_, f2, Or.inr ⟨rfl, rfl⟩⟩
  have f2 := FR.t f0 g2
  refine wp_aload_n k112_5 rfl rfl ?_
  refine wq_getR k112_6 h0.1 rfl ?_
  refine wq_getR k112_9 h0.2.2.2.2.1 rfl ?_
  refine wp_iload_n k112_12 rfl rfl ?_
  refine wcsI (st2 := [_]) k112_13 (cw160 (S := S)) (by decide) rfl rfl rfl (by decide) (fun x13 W13 g13 => ?_)
  have f13 := FR.t f2 g13
  refine wcvI (st2 := []) k112_16 (cw33 (S := S) h0.2.2.2.2.2.1) (by decide) rfl rfl rfl rfl h0.2.2.2.2.2.1.1.h h0.2.2.2.2.2.1.1.o (by decide) (fun x16 W16 g16 => ?_)
  have f16 := FR.t f13 g16
  exact wp_retI k112_19 rfl ⟨_, f16, Or.inl ⟨_, rfl, rfl⟩⟩
theorem cw113 {S : ww_S} {sh : List mm_C} {V : hV} {q0 : Nat} (h0 : kWho sh q0) {p1 : Int32} {p2 : Int32} : EVQ S 4 113 [.ref 64, .int p1, .int p2] (hH sh V) (wP sh V 16) := by
  have f0 := FR.r sh V
  refine ev_of P113 rfl ?_
  refine wp_aload_n k113_0 rfl rfl ?_
  refine wp_iload_n k113_1 rfl rfl ?_
  refine wcvT (st2 := []) k113_2 (cw148 (S := S) h0) (by decide) rfl rfl rfl rfl (by decide) h0.1.o (by decide) rfl (fun W2 g2 => ?_) (fun W2 g2 => ?_)
  rotate_left 1
  · have f2 := FR.t f0 g2
    exact ⟨_, f2, Or.inr ⟨rfl, rfl⟩⟩
  have f2 := FR.t f0 g2
  refine wp_aload_n k113_5 rfl rfl ?_
  refine wp_iload_n k113_6 rfl rfl ?_
  refine wcvT (st2 := []) k113_7 (cw148 (S := S) h0) (by decide) rfl rfl rfl rfl (by decide) h0.1.o (by decide) rfl (fun W7 g7 => ?_) (fun W7 g7 => ?_)
  rotate_left 1
  · have f7 := FR.t f2 g7
    exact ⟨_, f7, Or.inr ⟨rfl, rfl⟩⟩
  have f7 := FR.t f2 g7
  refine wp_aload_n k113_10 rfl rfl ?_
  refine wq_getR k113_11 h0.1 rfl ?_
  refine wq_getR k113_14 h0.2.2.2.2.1 rfl ?_
  refine wp_iload_n k113_17 rfl rfl ?_
  refine wp_iload_n k113_18 rfl rfl ?_
  refine wcvI (st2 := []) k113_19 (cw34 (S := S) h0.2.2.2.2.2.1) (by decide) rfl rfl rfl rfl h0.2.2.2.2.2.1.1.h h0.2.2.2.2.2.1.1.o (by decide) (fun x19 W19 g19 => ?_)
  have f19 := FR.t f7 g19
  exact wp_retI k113_22 rfl ⟨_, f19, Or.inl ⟨_, rfl, rfl⟩⟩
theorem cw114 {S : ww_S} {sh : List mm_C} {V : hV} {q0 : Nat} (h0 : kWho sh q0) {p1 : Int32} : EVQ S 7 114 [.ref 64, .int p1] (hH sh V) (wP sh V 16) := by
  have f0 := FR.r sh V
  refine ev_of P114 rfl ?_
  refine wp_aload_n k114_0 rfl rfl ?_
  refine wp_iload_n k114_1 rfl rfl ?_
  refine wcvT (st2 := []) k114_2 (cw148 (S := S) h0) (by decide) rfl rfl rfl rfl (by decide) h0.1.o (by decide) rfl (fun W2 g2 => ?_) (fun W2 g2 => ?_)
  rotate_left 1
  · have f2 := FR.t f0 g2
    exact ⟨_, f2, Or.inr ⟨rfl, rfl⟩⟩
  have f2 := FR.t f0 g2
  refine wp_aload_n k114_5 rfl rfl ?_
  refine wq_getR k114_6 h0.1 rfl ?_
  refine wcvI (st2 := []) k114_9 (cw89 (S := S) h0.2.2.2.2) (by decide) rfl rfl rfl rfl (by decide) h0.2.2.2.2.1.o (by decide) (fun x9 W9 g9 => ?_)
  have f9 := FR.t f2 g9
  refine wp_iload_n k114_12 rfl rfl ?_
  refine wcsZ (st2 := []) k114_13 (cw159 (S := S)) (by decide) rfl rfl rfl (by decide) (fun b13 W13 g13 => ?_)
  have f13 := FR.t f9 g13
  exact wp_retZ (b := b13) k114_16 rfl ⟨_, f13, Or.inl ⟨_, rfl, rfl⟩⟩
theorem cw115 {S : ww_S} {sh : List mm_C} {V : hV} {q0 : Nat} (h0 : kWho sh q0) : EVQ S 7 115 [.ref 64] (hH sh V) (wI sh V) := by
  have f0 := FR.r sh V
  refine ev_of P115 rfl ?_
  refine wp_aload_n k115_0 rfl rfl ?_
  refine wq_getR k115_1 h0.1 rfl ?_
  refine wcvI (st2 := []) k115_4 (cw89 (S := S) h0.2.2.2.2) (by decide) rfl rfl rfl rfl (by decide) h0.2.2.2.2.1.o (by decide) (fun x4 W4 g4 => ?_)
  have f4 := FR.t f0 g4
  exact wp_retI k115_7 rfl ⟨_, _, rfl, rfl, f4⟩
theorem cw116 {S : ww_S} {sh : List mm_C} {V : hV} {q0 : Nat} (h0 : kWho sh q0) : EVQ S 7 116 [.ref 64] (hH sh V) (wI sh V) := by
  have f0 := FR.r sh V
  refine ev_of P116 rfl ?_
  refine wp_aload_n k116_0 rfl rfl ?_
  refine wq_getR k116_1 h0.1 rfl ?_
  refine wq_getR k116_4 h0.2.2.2.2.1 rfl ?_
  refine wp_aload_n k116_7 rfl rfl ?_
  refine wq_getR k116_8 h0.1 rfl ?_
  refine wq_getR k116_11 h0.2.2.2.2.1 rfl ?_
  refine wq_getI k116_14 h0.2.2.2.2.2.2.2.2.1 rfl ?_
  refine wp_aload_n k116_17 rfl rfl ?_
  refine wq_getR k116_18 h0.1 rfl ?_
  refine wcvI (st2 := [_, _]) k116_21 (cw89 (S := S) h0.2.2.2.2) (by decide) rfl rfl rfl rfl (by decide) h0.2.2.2.2.1.o (by decide) (fun x21 W21 g21 => ?_)
  have f21 := FR.t f0 g21
  refine wcvI (st2 := []) k116_24 (cw38 (S := S) h0.2.2.2.2.2.1) (by decide) rfl rfl rfl rfl h0.2.2.2.2.2.1.1.h h0.2.2.2.2.2.1.1.o (by decide) (fun x24 W24 g24 => ?_)
  have f24 := FR.t f21 g24
  exact wp_retI k116_27 rfl ⟨_, _, rfl, rfl, f24⟩
theorem cw117 {S : ww_S} {sh : List mm_C} {V : hV} {q0 : Nat} (h0 : kWho sh q0) : EVQ S 7 117 [.ref 64] (hH sh V) (wI sh V) := by
  have f0 := FR.r sh V
  refine ev_of P117 rfl ?_
  refine wp_aload_n k117_0 rfl rfl ?_
  refine wq_getR k117_1 h0.1 rfl ?_
  refine wq_getR k117_4 h0.2.2.2.2.1 rfl ?_
  refine wp_aload_n k117_7 rfl rfl ?_
  refine wq_getR k117_8 h0.1 rfl ?_
  refine wq_getR k117_11 h0.2.2.2.2.1 rfl ?_
  refine wq_getI k117_14 h0.2.2.2.2.2.2.2.2.1 rfl ?_
  refine wp_aload_n k117_17 rfl rfl ?_
  refine wq_getR k117_18 h0.1 rfl ?_
  refine wcvI (st2 := [_, _]) k117_21 (cw89 (S := S) h0.2.2.2.2) (by decide) rfl rfl rfl rfl (by decide) h0.2.2.2.2.1.o (by decide) (fun x21 W21 g21 => ?_)
  have f21 := FR.t f0 g21
  refine wcvI (st2 := []) k117_24 (cw39 (S := S) h0.2.2.2.2.2.1) (by decide) rfl rfl rfl rfl h0.2.2.2.2.2.1.1.h h0.2.2.2.2.2.1.1.o (by decide) (fun x24 W24 g24 => ?_)
  have f24 := FR.t f21 g24
  exact wp_retI k117_27 rfl ⟨_, _, rfl, rfl, f24⟩
theorem cw118 {S : ww_S} {sh : List mm_C} {V : hV} {q0 : Nat} (h0 : kWho sh q0) : EVQ S 7 118 [.ref 64] (hH sh V) (wZ sh V) := by
  have f0 := FR.r sh V
  have j41 : ∀ (bs0_41 : Bool) (W41 : hV), FR sh V W41 → WP S 6 mm_m118 41 [some (.ref 64)] [.int (bI bs0_41)] (hH sh W41) (wZ sh V) := by
    intro bs0_41 W41 f41
    exact wp_retZ (b := bs0_41) k118_41 rfl ⟨bs0_41, _, rfl, rfl, f41⟩
  refine ev_of P118 rfl ?_
  refine wp_aload_n k118_0 rfl rfl ?_
  refine wq_getR k118_1 h0.1 rfl ?_
  refine wq_getR k118_4 h0.2.2.2.2.1 rfl ?_
  refine wp_aload_n k118_7 rfl rfl ?_
  refine wq_getR k118_8 h0.1 rfl ?_
  refine wq_getR k118_11 h0.2.2.2.2.1 rfl ?_
  refine wq_getI k118_14 h0.2.2.2.2.2.2.2.2.1 rfl ?_
  refine wcsI (st2 := [_]) k118_17 (cw160 (S := S)) (by decide) rfl rfl rfl (by decide) (fun x17 W17 g17 => ?_)
  have f17 := FR.t f0 g17
  refine wcvI (st2 := []) k118_20 (cw33 (S := S) h0.2.2.2.2.2.1) (by decide) rfl rfl rfl rfl h0.2.2.2.2.2.1.1.h h0.2.2.2.2.2.1.1.o (by decide) (fun x20 W20 g20 => ?_)
  have f20 := FR.t f17 g20
  refine wp_aload_n k118_23 rfl rfl ?_
  refine wq_getR k118_24 h0.1 rfl ?_
  refine wcvI (st2 := [_]) k118_27 (cw89 (S := S) h0.2.2.2.2) (by decide) rfl rfl rfl rfl (by decide) h0.2.2.2.2.1.o (by decide) (fun x27 W27 g27 => ?_)
  have f27 := FR.t f20 g27
  refine wp_iconst (-1) k118_30 (by decide) ?_
  refine wp_ixor k118_31 ?_
  refine wp_iand k118_32 ?_
  refine wp_if_ne k118_33 (fun c33 => ?_) (fun c33 => ?_)
  · refine wp_iconst 0 k118_40 (by decide) ?_
    exact j41 false _ f27
  · refine wp_iconst 1 k118_36 (by decide) ?_
    refine wp_goto k118_37 ?_
    exact j41 true _ f27
theorem cw119 {S : ww_S} {sh : List mm_C} {V : hV} {q0 : Nat} (h0 : kWho sh q0) : EVQ S 7 119 [.ref 64] (hH sh V) (wI sh V) := by
  have f0 := FR.r sh V
  have j29 : ∀ (m29 : Nat) (x1_29 : Int32) (x2_29 : Int32) (y3_29 : Option Value) (W29 : hV), mea x2_29 < m29 → FR sh V W29 → WP S 6 mm_m119 29 [some (.ref 64), some (.int x1_29), some (.int x2_29), y3_29] [] (hH sh W29) (wI sh V) := by
    intro m29
    induction m29 with
    | zero =>
      intro x1_29 x2_29 y3_29 W29 hm29 f29
      exact absurd hm29 (Nat.not_lt_zero _)
    | succ m29 ih29 =>
      intro x1_29 x2_29 y3_29 W29 hm29 f29
      refine wp_iload_n k119_29 rfl rfl ?_
      refine wp_bipush 32 k119_30 (by decide) ?_
      refine wp_if_icmp_gt k119_32 (fun c32 => ?_) (fun c32 => ?_)
      · refine wp_bipush 99 k119_82 (by decide) ?_
        exact wp_retI k119_84 rfl ⟨_, _, rfl, rfl, f29⟩
      · have hd29 : mea (x2_29 + 1) < m29 := Nat.lt_of_lt_of_le (mea_n c32 (by decide)) (Nat.le_of_lt_succ hm29)
        refine wp_aload_n k119_35 rfl rfl ?_
        refine wq_getR k119_36 h0.1 rfl ?_
        refine wq_getR k119_39 h0.2.2.2.2.1 rfl ?_
        refine wp_iload_n k119_42 rfl rfl ?_
        refine wcvI (st2 := []) k119_43 (cw36 (S := S) h0.2.2.2.2.2.1) (by decide) rfl rfl rfl rfl h0.2.2.2.2.2.1.1.h h0.2.2.2.2.2.1.1.o (by decide) (fun x43 W43 g43 => ?_)
        have f43 := FR.t f29 g43
        refine wp_istore_n (L1 := [_, _, _, _]) k119_46 rfl rfl ?_
        refine wp_iload_n k119_47 rfl rfl ?_
        refine wp_iload_n k119_48 rfl rfl ?_
        refine wp_if_icmp_ne k119_49 (fun c49 => ?_) (fun c49 => ?_)
        · refine wp_iload_n k119_55 rfl rfl ?_
          refine wp_aload_n k119_56 rfl rfl ?_
          refine wq_getR k119_57 h0.1 rfl ?_
          refine wq_getR k119_60 h0.2.2.2.2.1 rfl ?_
          refine wq_getI k119_63 h0.2.2.2.2.2.2.2.2.1 rfl ?_
          refine wcsZ (st2 := []) k119_66 (cw159 (S := S)) (by decide) rfl rfl rfl (by decide) (fun b66 W66 g66 => ?_)
          have f66 := FR.t f43 g66
          refine wp_if_ne k119_69 (fun c69 => ?_) (fun c69 => ?_)
          · refine wp_iload_n k119_74 rfl rfl ?_
            refine wp_istore_n (L1 := [_, _, _, _]) k119_75 rfl rfl ?_
            refine wp_iinc (L1 := [_, _, _, _]) 1 k119_76 rfl (by decide) rfl ?_
            refine wp_goto k119_79 ?_
            exact ih29 _ _ _ _ hd29 f66
          · refine wp_iload_n k119_72 rfl rfl ?_
            exact wp_retI k119_73 rfl ⟨_, _, rfl, rfl, f66⟩
        · refine wp_bipush 99 k119_52 (by decide) ?_
          exact wp_retI k119_54 rfl ⟨_, _, rfl, rfl, f43⟩
  refine ev_of P119 rfl ?_
  refine wp_aload_n k119_0 rfl rfl ?_
  refine wq_getR k119_1 h0.1 rfl ?_
  refine wcvI (st2 := []) k119_4 (cw89 (S := S) h0.2.2.2.2) (by decide) rfl rfl rfl rfl (by decide) h0.2.2.2.2.1.o (by decide) (fun x4 W4 g4 => ?_)
  have f4 := FR.t f0 g4
  refine wp_istore_n (L1 := [_, _, _, _]) k119_7 rfl rfl ?_
  refine wp_iload_n k119_8 rfl rfl ?_
  refine wp_aload_n k119_9 rfl rfl ?_
  refine wq_getR k119_10 h0.1 rfl ?_
  refine wq_getR k119_13 h0.2.2.2.2.1 rfl ?_
  refine wq_getI k119_16 h0.2.2.2.2.2.2.2.2.1 rfl ?_
  refine wcsZ (st2 := []) k119_19 (cw159 (S := S)) (by decide) rfl rfl rfl (by decide) (fun b19 W19 g19 => ?_)
  have f19 := FR.t f4 g19
  refine wp_if_ne k119_22 (fun c22 => ?_) (fun c22 => ?_)
  · refine wp_iconst 0 k119_27 (by decide) ?_
    refine wp_istore_n (L1 := [_, _, _, _]) k119_28 rfl rfl ?_
    exact j29 _ _ _ _ _ (Nat.lt_succ_self _) f19
  · refine wp_iconst (-1) k119_25 (by decide) ?_
    exact wp_retI k119_26 rfl ⟨_, _, rfl, rfl, f19⟩
theorem cw120 {S : ww_S} {sh : List mm_C} {V : hV} {q0 : Nat} (h0 : kWho sh q0) : EVQ S 7 120 [.ref 64] (hH sh V) (wI sh V) := by
  have f0 := FR.r sh V
  have j60 : ∀ (x1_60 : Int32) (x2_60 : Int32) (b3_60 : Bool) (x4_60 : Int32) (y5_60 : Option Value) (W60 : hV), FR sh V W60 → WP S 6 mm_m120 60 [some (.ref 64), some (.int x1_60), some (.int x2_60), some (.int (bI b3_60)), some (.int x4_60), y5_60] [] (hH sh W60) (wI sh V) := by
    intro x1_60 x2_60 b3_60 x4_60 y5_60 W60 f60
    refine wp_iload_n k120_60 rfl rfl ?_
    refine wp_aload_n k120_61 rfl rfl ?_
    refine wq_getR k120_62 h0.1 rfl ?_
    refine wq_getR k120_65 h0.2.2.2.2.1 rfl ?_
    refine wp_iconst 5 k120_68 (by decide) ?_
    refine wp_iconst 0 k120_69 (by decide) ?_
    refine wp_iload_n k120_70 rfl rfl ?_
    refine wcvI (st2 := [_]) k120_71 (cw37 (S := S) h0.2.2.2.2.2.1) (by decide) rfl rfl rfl rfl h0.2.2.2.2.2.1.1.h h0.2.2.2.2.2.1.1.o (by decide) (fun x71 W71 g71 => ?_)
    have f71 := FR.t f60 g71
    refine wp_ixor k120_74 ?_
    exact wp_retI k120_75 rfl ⟨_, _, rfl, rfl, f71⟩
  have j15 : ∀ (m15 : Nat) (x1_15 : Int32) (x2_15 : Int32) (b3_15 : Bool) (x4_15 : Int32) (y5_15 : Option Value) (W15 : hV), mea x4_15 < m15 → FR sh V W15 → WP S 6 mm_m120 15 [some (.ref 64), some (.int x1_15), some (.int x2_15), some (.int (bI b3_15)), some (.int x4_15), y5_15] [] (hH sh W15) (wI sh V) := by
    intro m15
    induction m15 with
    | zero =>
      intro x1_15 x2_15 b3_15 x4_15 y5_15 W15 hm15 f15
      exact absurd hm15 (Nat.not_lt_zero _)
    | succ m15 ih15 =>
      intro x1_15 x2_15 b3_15 x4_15 y5_15 W15 hm15 f15
      have j50 : ∀ (x5_50 : Int32) (bs0_50 : Bool) (W50 : hV), mea (x4_15 + 1) < m15 → FR sh V W50 → WP S 6 mm_m120 50 [some (.ref 64), some (.int x1_15), some (.int x2_15), some (.int (bI b3_15)), some (.int x4_15), some (.int x5_50)] [.int (bI bs0_50)] (hH sh W50) (wI sh V) := by
        intro x5_50 bs0_50 W50 hd15 f50
        refine wp_istore_n (L1 := [_, _, _, _, _, _]) k120_50 rfl rfl ?_
        refine wp_iload k120_51 rfl rfl ?_
        refine wp_istore_n (L1 := [_, _, _, _, _, _]) k120_53 rfl rfl ?_
        refine wp_iinc (L1 := [_, _, _, _, _, _]) 1 k120_54 rfl (by decide) rfl ?_
        refine wp_goto k120_57 ?_
        exact ih15 _ _ bs0_50 _ _ _ hd15 f50
      refine wp_iload k120_15 rfl rfl ?_
      refine wp_bipush 32 k120_17 (by decide) ?_
      refine wp_if_icmp_gt k120_19 (fun c19 => ?_) (fun c19 => ?_)
      · exact j60 _ _ b3_15 _ _ _ f15
      · have hd15 : mea (x4_15 + 1) < m15 := Nat.lt_of_lt_of_le (mea_n c19 (by decide)) (Nat.le_of_lt_succ hm15)
        refine wp_iload_n k120_22 rfl rfl ?_
        refine wp_if_eq k120_23 (fun c23 => ?_) (fun c23 => ?_)
        · exact j60 _ _ b3_15 _ _ _ f15
        · refine wp_aload_n k120_26 rfl rfl ?_
          refine wq_getR k120_27 h0.1 rfl ?_
          refine wq_getR k120_30 h0.2.2.2.2.1 rfl ?_
          refine wp_iload_n k120_33 rfl rfl ?_
          refine wcvI (st2 := []) k120_34 (cw36 (S := S) h0.2.2.2.2.2.1) (by decide) rfl rfl rfl rfl h0.2.2.2.2.2.1.1.h h0.2.2.2.2.2.1.1.o (by decide) (fun x34 W34 g34 => ?_)
          have f34 := FR.t f15 g34
          refine wp_istore (L1 := [_, _, _, _, _, _]) k120_37 rfl rfl ?_
          refine wp_iload k120_39 rfl rfl ?_
          refine wp_iload_n k120_41 rfl rfl ?_
          refine wp_if_icmp_eq k120_42 (fun c42 => ?_) (fun c42 => ?_)
          · refine wp_iconst 0 k120_49 (by decide) ?_
            exact j50 _ false _ hd15 f34
          · refine wp_iconst 1 k120_45 (by decide) ?_
            refine wp_goto k120_46 ?_
            exact j50 _ true _ hd15 f34
  refine ev_of P120 rfl ?_
  refine wp_aload_n k120_0 rfl rfl ?_
  refine wq_getR k120_1 h0.1 rfl ?_
  refine wcvI (st2 := []) k120_4 (cw89 (S := S) h0.2.2.2.2) (by decide) rfl rfl rfl rfl (by decide) h0.2.2.2.2.1.o (by decide) (fun x4 W4 g4 => ?_)
  have f4 := FR.t f0 g4
  refine wp_istore_n (L1 := [_, _, _, _, _, _]) k120_7 rfl rfl ?_
  refine wp_iload_n k120_8 rfl rfl ?_
  refine wp_istore_n (L1 := [_, _, _, _, _, _]) k120_9 rfl rfl ?_
  refine wp_iconst 1 k120_10 (by decide) ?_
  refine wp_istore_n (L1 := [_, _, _, _, _, _]) k120_11 rfl rfl ?_
  refine wp_iconst 0 k120_12 (by decide) ?_
  refine wp_istore (L1 := [_, _, _, _, _, _]) k120_13 rfl rfl ?_
  exact j15 _ _ _ true _ _ _ (Nat.lt_succ_self _) f4
theorem cw121 {S : ww_S} {sh : List mm_C} {V : hV} {q0 : Nat} (h0 : kWho sh q0) {p1 : Int32} {p2 : Int32} : EVQ S 2 121 [.ref 64, .int p1, .int p2] (hH sh V) (wP sh V 16) := by
  have f0 := FR.r sh V
  have j64 : ∀ (x3_64 : Int32) (x4_64 : Int32) (xs0_64 : Int32) (W64 : hV), FR sh V W64 → WP S 1 mm_m121 64 [some (.ref 64), some (.int p1), some (.int p2), some (.int x3_64), some (.int x4_64)] [.int xs0_64] (hH sh W64) (wP sh V 16) := by
    intro x3_64 x4_64 xs0_64 W64 f64
    exact wp_retI k121_64 rfl ⟨_, f64, Or.inl ⟨_, rfl, rfl⟩⟩
  refine ev_of P121 rfl ?_
  refine wp_aload_n k121_0 rfl rfl ?_
  refine wp_iload_n k121_1 rfl rfl ?_
  refine wcvT (st2 := []) k121_2 (cw146 (S := S) h0) (by decide) rfl rfl rfl rfl (by decide) h0.1.o (by decide) rfl (fun W2 g2 => ?_) (fun W2 g2 => ?_)
  rotate_left 1
  · have f2 := FR.t f0 g2
    exact ⟨_, f2, Or.inr ⟨rfl, rfl⟩⟩
  have f2 := FR.t f0 g2
  refine wp_aload_n k121_5 rfl rfl ?_
  refine wp_iload_n k121_6 rfl rfl ?_
  refine wcvT (st2 := []) k121_7 (cw147 (S := S) h0) (by decide) rfl rfl rfl rfl (by decide) h0.1.o (by decide) rfl (fun W7 g7 => ?_) (fun W7 g7 => ?_)
  rotate_left 1
  · have f7 := FR.t f2 g7
    exact ⟨_, f7, Or.inr ⟨rfl, rfl⟩⟩
  have f7 := FR.t f2 g7
  refine wp_aload_n k121_10 rfl rfl ?_
  refine wq_getR k121_11 h0.1 rfl ?_
  refine wq_getR k121_14 h0.2.2.2.2.1 rfl ?_
  refine wp_iload_n k121_17 rfl rfl ?_
  refine wp_aload_n k121_18 rfl rfl ?_
  refine wq_getR k121_19 h0.1 rfl ?_
  refine wq_getR k121_22 h0.2.2.2.2.1 rfl ?_
  refine wq_getI k121_25 h0.2.2.2.2.2.2.2.2.1 rfl ?_
  refine wcvI (st2 := []) k121_28 (cw29 (S := S) h0.2.2.2.2.2.1) (by decide) rfl rfl rfl rfl h0.2.2.2.2.2.1.1.h h0.2.2.2.2.2.1.1.o (by decide) (fun x28 W28 g28 => ?_)
  have f28 := FR.t f7 g28
  refine wp_istore_n (L1 := [_, _, _, _, _]) k121_31 rfl rfl ?_
  refine wp_getstatic k121_32 rfl ?_
  refine wp_iload_n k121_35 rfl rfl ?_
  refine wcsI (st2 := []) k121_36 (cw156x (S := S)) (by decide) rfl rfl rfl (by decide) (fun x36 W36 g36 => ?_)
  have f36 := FR.t f28 g36
  refine wp_istore (L1 := [_, _, _, _, _]) k121_39 rfl rfl ?_
  refine wp_iload_n k121_41 rfl rfl ?_
  refine wp_iload k121_42 rfl rfl ?_
  refine wp_iconst (-1) k121_44 (by decide) ?_
  refine wp_ixor k121_45 ?_
  refine wp_iand k121_46 ?_
  refine wp_if_ne k121_47 (fun c47 => ?_) (fun c47 => ?_)
  · refine wp_iload_n k121_52 rfl rfl ?_
    refine wp_iload k121_53 rfl rfl ?_
    refine wp_iand k121_55 ?_
    refine wp_if_ne k121_56 (fun c56 => ?_) (fun c56 => ?_)
    · refine wp_iconst (-1) k121_63 (by decide) ?_
      exact j64 _ _ _ _ f36
    · refine wp_iconst 0 k121_59 (by decide) ?_
      refine wp_goto k121_60 ?_
      exact j64 _ _ _ _ f36
  · refine wp_iconst 1 k121_50 (by decide) ?_
    exact wp_retI k121_51 rfl ⟨_, f36, Or.inl ⟨_, rfl, rfl⟩⟩
theorem cw122 {S : ww_S} {sh : List mm_C} {V : hV} {q0 : Nat} (h0 : kWho sh q0) : EVQ S 3 122 [.ref 64] (hH sh V) (wI sh V) := by
  have f0 := FR.r sh V
  refine ev_of P122 rfl ?_
  refine wp_aload_n k122_0 rfl rfl ?_
  refine wq_getR k122_1 h0.1 rfl ?_
  refine wq_getR k122_4 h0.2.2.2.2.1 rfl ?_
  refine wp_aload_n k122_7 rfl rfl ?_
  refine wq_getR k122_8 h0.1 rfl ?_
  refine wq_getR k122_11 h0.2.2.2.2.1 rfl ?_
  refine wq_getI k122_14 h0.2.2.2.2.2.2.2.2.1 rfl ?_
  refine wp_aload_n k122_17 rfl rfl ?_
  refine wq_getR k122_18 h0.1 rfl ?_
  refine wq_getR k122_21 h0.2.2.2.2.1 rfl ?_
  refine wq_getI k122_24 h0.2.2.2.2.2.2.2.2.1 rfl ?_
  refine wcsI (st2 := [_, _]) k122_27 (cw160 (S := S)) (by decide) rfl rfl rfl (by decide) (fun x27 W27 g27 => ?_)
  have f27 := FR.t f0 g27
  refine wcvI (st2 := []) k122_30 (cw38 (S := S) h0.2.2.2.2.2.1) (by decide) rfl rfl rfl rfl h0.2.2.2.2.2.1.1.h h0.2.2.2.2.2.1.1.o (by decide) (fun x30 W30 g30 => ?_)
  have f30 := FR.t f27 g30
  exact wp_retI k122_33 rfl ⟨_, _, rfl, rfl, f30⟩
theorem cw123 {S : ww_S} {sh : List mm_C} {V : hV} {q0 : Nat} (h0 : kWho sh q0) : EVQ S 7 123 [.ref 64] (hH sh V) (wI sh V) := by
  have f0 := FR.r sh V
  refine ev_of P123 rfl ?_
  refine wp_aload_n k123_0 rfl rfl ?_
  refine wp_iconst (-1) k123_1 (by decide) ?_
  refine wp_aload_n k123_2 rfl rfl ?_
  refine wq_getR k123_3 h0.1 rfl ?_
  refine wcvI (st2 := [_, _]) k123_6 (cw89 (S := S) h0.2.2.2.2) (by decide) rfl rfl rfl rfl (by decide) h0.2.2.2.2.1.o (by decide) (fun x6 W6 g6 => ?_)
  have f6 := FR.t f0 g6
  refine wcvI (st2 := []) k123_9 (cw153 (S := S) h0) (by decide) rfl rfl rfl rfl (by decide) h0.1.o (by decide) (fun x9 W9 g9 => ?_)
  have f9 := FR.t f6 g9
  exact wp_retI k123_12 rfl ⟨_, _, rfl, rfl, f9⟩
theorem cw124 {S : ww_S} {sh : List mm_C} {V : hV} {q0 : Nat} (h0 : kWho sh q0) {p1 : Int32} : EVQ S 7 124 [.ref 64, .int p1] (hH sh V) (wP sh V 16) := by
  have f0 := FR.r sh V
  refine ev_of P124 rfl ?_
  refine wp_aload_n k124_0 rfl rfl ?_
  refine wp_iload_n k124_1 rfl rfl ?_
  refine wcvT (st2 := []) k124_2 (cw146 (S := S) h0) (by decide) rfl rfl rfl rfl (by decide) h0.1.o (by decide) rfl (fun W2 g2 => ?_) (fun W2 g2 => ?_)
  rotate_left 1
  · have f2 := FR.t f0 g2
    exact ⟨_, f2, Or.inr ⟨rfl, rfl⟩⟩
  have f2 := FR.t f0 g2
  refine wp_aload_n k124_5 rfl rfl ?_
  refine wp_iload_n k124_6 rfl rfl ?_
  refine wp_aload_n k124_7 rfl rfl ?_
  refine wq_getR k124_8 h0.1 rfl ?_
  refine wcvI (st2 := [_, _]) k124_11 (cw89 (S := S) h0.2.2.2.2) (by decide) rfl rfl rfl rfl (by decide) h0.2.2.2.2.1.o (by decide) (fun x11 W11 g11 => ?_)
  have f11 := FR.t f2 g11
  refine wcvI (st2 := []) k124_14 (cw153 (S := S) h0) (by decide) rfl rfl rfl rfl (by decide) h0.1.o (by decide) (fun x14 W14 g14 => ?_)
  have f14 := FR.t f11 g14
  exact wp_retI k124_17 rfl ⟨_, f14, Or.inl ⟨_, rfl, rfl⟩⟩
theorem cw125 {S : ww_S} {sh : List mm_C} {V : hV} {q0 : Nat} (h0 : kWho sh q0) {p1 : Int32} : EVQ S 7 125 [.ref 64, .int p1] (hH sh V) (wP sh V 15) := by
  have f0 := FR.r sh V
  refine ev_of P125 rfl ?_
  refine wp_aload_n k125_0 rfl rfl ?_
  refine wp_iload_n k125_1 rfl rfl ?_
  refine wcvT (st2 := []) k125_2 (cw149 (S := S) h0) (by decide) rfl rfl rfl rfl (by decide) h0.1.o (by decide) rfl (fun W2 g2 => ?_) (fun W2 g2 => ?_)
  rotate_left 1
  · have f2 := FR.t f0 g2
    exact ⟨_, f2, Or.inr ⟨rfl, rfl⟩⟩
  have f2 := FR.t f0 g2
  refine wp_aload_n k125_5 rfl rfl ?_
  refine wq_getR k125_6 h0.1 rfl ?_
  refine wp_aload_n k125_9 rfl rfl ?_
  refine wq_getR k125_10 h0.1 rfl ?_
  refine wq_getR k125_13 h0.2.2.2.2.1 rfl ?_
  refine wcvN (st2 := []) k125_16 (cw27 (S := S) h0.2.1.2.2.2.2 h0.2.2.2.2.2.1) (by decide) rfl rfl rfl rfl (by decide) h0.2.1.2.2.2.2.1.o (by decide) (fun W16 g16 => ?_)
  have f16 := FR.t f2 g16
  refine wp_aload_n k125_19 rfl rfl ?_
  refine wq_getR k125_20 h0.1 rfl ?_
  refine wp_iload_n k125_23 rfl rfl ?_
  refine wp_aload_n k125_24 rfl rfl ?_
  refine wq_getR k125_25 h0.1 rfl ?_
  refine wcvI (st2 := [_, _]) k125_28 (cw89 (S := S) h0.2.2.2.2) (by decide) rfl rfl rfl rfl (by decide) h0.2.2.2.2.1.o (by decide) (fun x28 W28 g28 => ?_)
  have f28 := FR.t f16 g28
  refine wcvI (st2 := []) k125_31 (cw41 (S := S) h0.2.1.2.2.2.2) (by decide) rfl rfl rfl rfl (by decide) h0.2.1.2.2.2.2.1.o (by decide) (fun x31 W31 g31 => ?_)
  have f31 := FR.t f28 g31
  refine wp_pop k125_34 rfl ?_
  refine wp_aload_n k125_35 rfl rfl ?_
  refine wq_getR k125_36 h0.1 rfl ?_
  refine wp_aload_n k125_39 rfl rfl ?_
  refine wq_getR k125_40 h0.1 rfl ?_
  refine wq_getR k125_43 h0.2.2.2.2.1 rfl ?_
  refine wq_getI k125_46 h0.2.2.2.2.2.2.2.2.1 rfl ?_
  refine wp_aload_n k125_49 rfl rfl ?_
  refine wq_getR k125_50 h0.1 rfl ?_
  refine wq_getR k125_53 h0.2.2.2.2.1 rfl ?_
  refine wq_getI k125_56 h0.2.2.2.2.2.2.2.2.1 rfl ?_
  refine wcsI (st2 := [_, _]) k125_59 (cw160 (S := S)) (by decide) rfl rfl rfl (by decide) (fun x59 W59 g59 => ?_)
  have f59 := FR.t f31 g59
  refine wcvI (st2 := []) k125_62 (cw38 (S := S) h0.2.1.2.2.2.2) (by decide) rfl rfl rfl rfl (by decide) h0.2.1.2.2.2.2.1.o (by decide) (fun x62 W62 g62 => ?_)
  have f62 := FR.t f59 g62
  exact wp_retI k125_65 rfl ⟨_, f62, Or.inl ⟨_, rfl, rfl⟩⟩
theorem cw126 {S : ww_S} {sh : List mm_C} {V : hV} {q0 : Nat} (h0 : kWho sh q0) {p1 : Int32} : EVQ S 5 126 [.ref 64, .int p1] (hH sh V) (wP sh V 16) := by
  have f0 := FR.r sh V
  have j38 : ∀ (m38 : Nat) (x2_38 : Int32) (x3_38 : Int32) (y4_38 : Option Value) (y5_38 : Option Value) (W38 : hV), mea x3_38 < m38 → FR sh V W38 → WP S 4 mm_m126 38 [some (.ref 64), some (.int p1), some (.int x2_38), some (.int x3_38), y4_38, y5_38] [] (hH sh W38) (wP sh V 16) := by
    intro m38
    induction m38 with
    | zero =>
      intro x2_38 x3_38 y4_38 y5_38 W38 hm38 f38
      exact absurd hm38 (Nat.not_lt_zero _)
    | succ m38 ih38 =>
      intro x2_38 x3_38 y4_38 y5_38 W38 hm38 f38
      refine wp_iload_n k126_38 rfl rfl ?_
      refine wp_bipush 32 k126_39 (by decide) ?_
      refine wp_if_icmp_gt k126_41 (fun c41 => ?_) (fun c41 => ?_)
      · refine wp_iconst (-1) k126_125 (by decide) ?_
        exact wp_retI k126_126 rfl ⟨_, f38, Or.inl ⟨_, rfl, rfl⟩⟩
      · have hd38 : mea (x3_38 + 1) < m38 := Nat.lt_of_lt_of_le (mea_n c41 (by decide)) (Nat.le_of_lt_succ hm38)
        refine wp_aload_n k126_44 rfl rfl ?_
        refine wq_getR k126_45 h0.1 rfl ?_
        refine wp_aload_n k126_48 rfl rfl ?_
        refine wq_getR k126_49 h0.1 rfl ?_
        refine wq_getR k126_52 h0.2.2.2.2.1 rfl ?_
        refine wq_getI k126_55 h0.2.2.2.2.2.2.2.2.1 rfl ?_
        refine wp_getstatic k126_58 rfl ?_
        refine wp_iload_n k126_61 rfl rfl ?_
        refine wcsI (st2 := [_, _]) k126_62 (cw156x (S := S)) (by decide) rfl rfl rfl (by decide) (fun x62 W62 g62 => ?_)
        have f62 := FR.t f38 g62
        refine wcvI (st2 := []) k126_65 (cw39 (S := S) h0.2.1.2.2.2.2) (by decide) rfl rfl rfl rfl (by decide) h0.2.1.2.2.2.2.1.o (by decide) (fun x65 W65 g65 => ?_)
        have f65 := FR.t f62 g65
        refine wp_istore (L1 := [_, _, _, _, _, _]) k126_68 rfl rfl ?_
        refine wp_iload k126_70 rfl rfl ?_
        refine wp_iload_n k126_72 rfl rfl ?_
        refine wp_if_icmp_ne k126_73 (fun c73 => ?_) (fun c73 => ?_)
        · refine wp_aload_n k126_78 rfl rfl ?_
          refine wq_getR k126_79 h0.1 rfl ?_
          refine wp_iload k126_82 rfl rfl ?_
          refine wp_getstatic k126_84 rfl ?_
          refine wp_iload_n k126_87 rfl rfl ?_
          refine wcsI (st2 := [_, _]) k126_88 (cw156x (S := S)) (by decide) rfl rfl rfl (by decide) (fun x88 W88 g88 => ?_)
          have f88 := FR.t f65 g88
          refine wcvI (st2 := []) k126_91 (cw40 (S := S) h0.2.1.2.2.2.2) (by decide) rfl rfl rfl rfl (by decide) h0.2.1.2.2.2.2.1.o (by decide) (fun x91 W91 g91 => ?_)
          have f91 := FR.t f88 g91
          refine wp_istore (L1 := [_, _, _, _, _, _]) k126_94 rfl rfl ?_
          refine wp_iload k126_96 rfl rfl ?_
          refine wp_aload_n k126_98 rfl rfl ?_
          refine wq_getR k126_99 h0.1 rfl ?_
          refine wq_getI k126_102 h0.2.1.2.2.2.2.1 rfl ?_
          refine wp_if_icmp_ne k126_105 (fun c105 => ?_) (fun c105 => ?_)
          · refine wp_aload_n k126_110 rfl rfl ?_
            refine wq_getR k126_111 h0.1 rfl ?_
            refine wp_iload k126_114 rfl rfl ?_
            refine wq_putI k126_116 h0.2.1.2.2.2.2.1 rfl rfl rfl (Or.inr (by decide)) rfl (fun W116 g116 => ?_)
            have f116 := FR.t f91 g116
            refine wp_iinc (L1 := [_, _, _, _, _, _]) 1 k126_119 rfl (by decide) rfl ?_
            refine wp_goto k126_122 ?_
            exact ih38 _ _ _ _ _ hd38 f116
          · refine wp_iconst (-1) k126_108 (by decide) ?_
            exact wp_retI k126_109 rfl ⟨_, f91, Or.inl ⟨_, rfl, rfl⟩⟩
        · refine wp_iload_n k126_76 rfl rfl ?_
          exact wp_retI k126_77 rfl ⟨_, f65, Or.inl ⟨_, rfl, rfl⟩⟩
  refine ev_of P126 rfl ?_
  refine wp_aload_n k126_0 rfl rfl ?_
  refine wp_iload_n k126_1 rfl rfl ?_
  refine wcvT (st2 := []) k126_2 (cw147 (S := S) h0) (by decide) rfl rfl rfl rfl (by decide) h0.1.o (by decide) rfl (fun W2 g2 => ?_) (fun W2 g2 => ?_)
  rotate_left 1
  · have f2 := FR.t f0 g2
    exact ⟨_, f2, Or.inr ⟨rfl, rfl⟩⟩
  have f2 := FR.t f0 g2
  refine wp_aload_n k126_5 rfl rfl ?_
  refine wq_getR k126_6 h0.1 rfl ?_
  refine wp_aload_n k126_9 rfl rfl ?_
  refine wq_getR k126_10 h0.1 rfl ?_
  refine wq_getR k126_13 h0.2.2.2.2.1 rfl ?_
  refine wcvN (st2 := []) k126_16 (cw27 (S := S) h0.2.1.2.2.2.2 h0.2.2.2.2.2.1) (by decide) rfl rfl rfl rfl (by decide) h0.2.1.2.2.2.2.1.o (by decide) (fun W16 g16 => ?_)
  have f16 := FR.t f2 g16
  refine wp_aload_n k126_19 rfl rfl ?_
  refine wq_getR k126_20 h0.1 rfl ?_
  refine wq_getR k126_23 h0.2.2.2.2.1 rfl ?_
  refine wq_getR k126_26 h0.2.2.2.2.2.2.2.2.1 rfl ?_
  refine wq_getI k126_29 h0.2.2.2.2.2.2.2.2.2.2.1.1 rfl ?_
  refine wcsI (st2 := []) k126_32 (cw161 (S := S)) (by decide) rfl rfl rfl (by decide) (fun x32 W32 g32 => ?_)
  have f32 := FR.t f16 g32
  refine wp_istore_n (L1 := [_, _, _, _, _, _]) k126_35 rfl rfl ?_
  refine wp_iconst 0 k126_36 (by decide) ?_
  refine wp_istore_n (L1 := [_, _, _, _, _, _]) k126_37 rfl rfl ?_
  exact j38 _ _ _ _ _ _ (Nat.lt_succ_self _) f32
theorem cw127 {S : ww_S} {sh : List mm_C} {V : hV} {q0 : Nat} (h0 : kWho sh q0) : EVQ S 2 127 [.ref 64] (hH sh V) (wI sh V) := by
  have f0 := FR.r sh V
  have j7 : ∀ (m7 : Nat) (x1_7 : Int32) (x2_7 : Int32) (x3_7 : Int32) (y4_7 : Option Value) (W7 : hV), mea x3_7 < m7 → FR sh V W7 → WP S 1 mm_m127 7 [some (.ref 64), some (.int x1_7), some (.int x2_7), some (.int x3_7), y4_7] [] (hH sh W7) (wI sh V) := by
    intro m7
    induction m7 with
    | zero =>
      intro x1_7 x2_7 x3_7 y4_7 W7 hm7 f7
      exact absurd hm7 (Nat.not_lt_zero _)
    | succ m7 ih7 =>
      intro x1_7 x2_7 x3_7 y4_7 W7 hm7 f7
      have j71 : ∀ (x1_71 : Int32) (x2_71 : Int32) (x4_71 : Int32) (W71 : hV), mea (x3_7 + 1) < m7 → FR sh V W71 → WP S 1 mm_m127 71 [some (.ref 64), some (.int x1_71), some (.int x2_71), some (.int x3_7), some (.int x4_71)] [] (hH sh W71) (wI sh V) := by
        intro x1_71 x2_71 x4_71 W71 hd7 f71
        refine wp_iinc (L1 := [_, _, _, _, _]) 1 k127_71 rfl (by decide) rfl ?_
        refine wp_goto k127_74 ?_
        exact ih7 _ _ _ _ _ hd7 f71
      refine wp_iload_n k127_7 rfl rfl ?_
      refine wp_aload_n k127_8 rfl rfl ?_
      refine wq_getR k127_9 h0.1 rfl ?_
      refine wq_getR k127_12 h0.2.2.2.2.1 rfl ?_
      refine wq_getR k127_15 h0.2.2.2.2.2.2.2.2.1 rfl ?_
      refine wq_getI k127_18 h0.2.2.2.2.2.2.2.2.2.1.1 rfl ?_
      refine wp_if_icmp_ge k127_21 (fun c21 => ?_) (fun c21 => ?_)
      · refine wp_iload_n k127_77 rfl rfl ?_
        exact wp_retI k127_78 rfl ⟨_, _, rfl, rfl, f7⟩
      · have hd7 : mea (x3_7 + 1) < m7 := Nat.lt_of_lt_of_le (mea_s c21) (Nat.le_of_lt_succ hm7)
        refine wp_aload_n k127_24 rfl rfl ?_
        refine wq_getR k127_25 h0.1 rfl ?_
        refine wq_getR k127_28 h0.2.2.2.2.1 rfl ?_
        refine wq_getI k127_31 h0.2.2.2.2.2.1.1 rfl ?_
        refine wp_aload_n k127_34 rfl rfl ?_
        refine wq_getR k127_35 h0.1 rfl ?_
        refine wq_getR k127_38 h0.2.2.2.2.1 rfl ?_
        refine wq_getI k127_41 h0.2.2.2.2.2.2.2.2.1 rfl ?_
        refine wp_iload_n k127_44 rfl rfl ?_
        refine wcsI (st2 := [_, _]) k127_45 (cw160 (S := S)) (by decide) rfl rfl rfl (by decide) (fun x45 W45 g45 => ?_)
        have f45 := FR.t f7 g45
        refine wcsI (st2 := [_]) k127_48 (cw163 (S := S)) (by decide) rfl rfl rfl (by decide) (fun x48 W48 g48 => ?_)
        have f48 := FR.t f45 g48
        refine wp_iand k127_51 ?_
        refine wp_istore (L1 := [_, _, _, _, _]) k127_52 rfl rfl ?_
        refine wp_iload k127_54 rfl rfl ?_
        refine wcsI (st2 := []) k127_56 (cw360 (S := S)) (by decide) rfl rfl rfl (by decide) (fun x56 W56 g56 => ?_)
        have f56 := FR.t f48 g56
        refine wp_iload_n k127_59 rfl rfl ?_
        refine wp_if_icmp_ge k127_60 (fun c60 => ?_) (fun c60 => ?_)
        · exact j71 _ _ _ _ hd7 f56
        · refine wp_iload_n k127_63 rfl rfl ?_
          refine wp_istore_n (L1 := [_, _, _, _, _]) k127_64 rfl rfl ?_
          refine wp_iload k127_65 rfl rfl ?_
          refine wcsI (st2 := []) k127_67 (cw360 (S := S)) (by decide) rfl rfl rfl (by decide) (fun x67 W67 g67 => ?_)
          have f67 := FR.t f56 g67
          refine wp_istore_n (L1 := [_, _, _, _, _]) k127_70 rfl rfl ?_
          exact j71 _ _ _ _ hd7 f67
  refine ev_of P127 rfl ?_
  refine wp_iconst 0 k127_0 (by decide) ?_
  refine wp_istore_n (L1 := [_, _, _, _, _]) k127_1 rfl rfl ?_
  refine wp_bipush 33 k127_2 (by decide) ?_
  refine wp_istore_n (L1 := [_, _, _, _, _]) k127_4 rfl rfl ?_
  refine wp_iconst 0 k127_5 (by decide) ?_
  refine wp_istore_n (L1 := [_, _, _, _, _]) k127_6 rfl rfl ?_
  exact j7 _ _ _ _ _ _ (Nat.lt_succ_self _) f0
theorem cw128 {S : ww_S} {sh : List mm_C} {V : hV} {q0 : Nat} (h0 : kWho sh q0) {p1 : Int32} : EVQ S 2 128 [.ref 64, .int p1] (hH sh V) (wP sh V 16) := by
  have f0 := FR.r sh V
  have j47 : ∀ (m47 : Nat) (x2_47 : Int32) (x3_47 : Int32) (x4_47 : Int32) (y5_47 : Option Value) (W47 : hV), meb x4_47 < m47 → FR sh V W47 → WP S 1 mm_m128 47 [some (.ref 64), some (.int p1), some (.int x2_47), some (.int x3_47), some (.int x4_47), y5_47] [] (hH sh W47) (wP sh V 16) := by
    intro m47
    induction m47 with
    | zero =>
      intro x2_47 x3_47 x4_47 y5_47 W47 hm47 f47
      exact absurd hm47 (Nat.not_lt_zero _)
    | succ m47 ih47 =>
      intro x2_47 x3_47 x4_47 y5_47 W47 hm47 f47
      have j112 : ∀ (x3_112 : Int32) (b5_112 : Bool) (W112 : hV), meb (x4_47 + -1) < m47 → FR sh V W112 → WP S 1 mm_m128 112 [some (.ref 64), some (.int p1), some (.int x2_47), some (.int x3_112), some (.int x4_47), some (.int (bI b5_112))] [] (hH sh W112) (wP sh V 16) := by
        intro x3_112 b5_112 W112 hd47 f112
        refine wp_iinc (L1 := [_, _, _, _, _, _]) (-1) k128_112 rfl (by decide) rfl ?_
        refine wp_goto k128_115 ?_
        exact ih47 _ _ _ _ _ hd47 f112
      have j90 : ∀ (bs0_90 : Bool) (W90 : hV), meb (x4_47 + -1) < m47 → FR sh V W90 → WP S 1 mm_m128 90 [some (.ref 64), some (.int p1), some (.int x2_47), some (.int x3_47), some (.int x4_47), y5_47] [.int (bI bs0_90)] (hH sh W90) (wP sh V 16) := by
        intro bs0_90 W90 hd47 f90
        refine wp_istore (L1 := [_, _, _, _, _, _]) k128_90 rfl rfl ?_
        refine wp_iload k128_92 rfl rfl ?_
        refine wp_if_eq k128_94 (fun c94 => ?_) (fun c94 => ?_)
        · exact j112 _ bs0_90 _ hd47 f90
        · refine wp_iload k128_97 rfl rfl ?_
          refine wcsI (st2 := []) k128_99 (cw360 (S := S)) (by decide) rfl rfl rfl (by decide) (fun x99 W99 g99 => ?_)
          have f99 := FR.t f90 g99
          refine wp_iload_n k128_102 rfl rfl ?_
          refine wcsI (st2 := [_]) k128_103 (cw360 (S := S)) (by decide) rfl rfl rfl (by decide) (fun x103 W103 g103 => ?_)
          have f103 := FR.t f99 g103
          refine wp_if_icmp_gt k128_106 (fun c106 => ?_) (fun c106 => ?_)
          · exact j112 _ bs0_90 _ hd47 f103
          · refine wp_iload k128_109 rfl rfl ?_
            refine wp_istore_n (L1 := [_, _, _, _, _, _]) k128_111 rfl rfl ?_
            exact j112 _ bs0_90 _ hd47 f103
      refine wp_iload k128_47 rfl rfl ?_
      refine wp_if_lt k128_49 (fun c49 => ?_) (fun c49 => ?_)
      · refine wp_iload_n k128_118 rfl rfl ?_
        exact wp_retI k128_119 rfl ⟨_, f47, Or.inl ⟨_, rfl, rfl⟩⟩
      · have hd47 : meb (x4_47 + -1) < m47 := Nat.lt_of_lt_of_le (meb_s c49) (Nat.le_of_lt_succ hm47)
        refine wp_iload_n k128_52 rfl rfl ?_
        refine wp_aload_n k128_53 rfl rfl ?_
        refine wq_getR k128_54 h0.1 rfl ?_
        refine wq_getR k128_57 h0.2.2.2.2.1 rfl ?_
        refine wq_getI k128_60 h0.2.2.2.2.2.2.2.2.1 rfl ?_
        refine wp_iload k128_63 rfl rfl ?_
        refine wcsI (st2 := [_]) k128_65 (cw163 (S := S)) (by decide) rfl rfl rfl (by decide) (fun x65 W65 g65 => ?_)
        have f65 := FR.t f47 g65
        refine wp_iand k128_68 ?_
        refine wp_aload_n k128_69 rfl rfl ?_
        refine wq_getR k128_70 h0.1 rfl ?_
        refine wq_getR k128_73 h0.2.2.2.2.1 rfl ?_
        refine wq_getI k128_76 h0.2.2.2.2.2.2.2.2.1 rfl ?_
        refine wcsI (st2 := [_]) k128_79 (cw160 (S := S)) (by decide) rfl rfl rfl (by decide) (fun x79 W79 g79 => ?_)
        have f79 := FR.t f65 g79
        refine wp_if_icmp_ne k128_82 (fun c82 => ?_) (fun c82 => ?_)
        · refine wp_iconst 0 k128_89 (by decide) ?_
          exact j90 false _ hd47 f79
        · refine wp_iconst 1 k128_85 (by decide) ?_
          refine wp_goto k128_86 ?_
          exact j90 true _ hd47 f79
  refine ev_of P128 rfl ?_
  refine wp_aload_n k128_0 rfl rfl ?_
  refine wp_iload_n k128_1 rfl rfl ?_
  refine wcvT (st2 := []) k128_2 (cw146 (S := S) h0) (by decide) rfl rfl rfl rfl (by decide) h0.1.o (by decide) rfl (fun W2 g2 => ?_) (fun W2 g2 => ?_)
  rotate_left 1
  · have f2 := FR.t f0 g2
    exact ⟨_, f2, Or.inr ⟨rfl, rfl⟩⟩
  have f2 := FR.t f0 g2
  refine wp_aload_n k128_5 rfl rfl ?_
  refine wq_getR k128_6 h0.1 rfl ?_
  refine wq_getR k128_9 h0.2.2.2.2.1 rfl ?_
  refine wp_iload_n k128_12 rfl rfl ?_
  refine wp_aload_n k128_13 rfl rfl ?_
  refine wq_getR k128_14 h0.1 rfl ?_
  refine wq_getR k128_17 h0.2.2.2.2.1 rfl ?_
  refine wq_getI k128_20 h0.2.2.2.2.2.2.2.2.1 rfl ?_
  refine wcvI (st2 := []) k128_23 (cw29 (S := S) h0.2.2.2.2.2.1) (by decide) rfl rfl rfl rfl h0.2.2.2.2.2.1.1.h h0.2.2.2.2.2.1.1.o (by decide) (fun x23 W23 g23 => ?_)
  have f23 := FR.t f2 g23
  refine wp_istore_n (L1 := [_, _, _, _, _, _]) k128_26 rfl rfl ?_
  refine wp_aload_n k128_27 rfl rfl ?_
  refine wq_getR k128_28 h0.1 rfl ?_
  refine wq_getR k128_31 h0.2.2.2.2.1 rfl ?_
  refine wq_getR k128_34 h0.2.2.2.2.2.2.2.2.1 rfl ?_
  refine wq_getI k128_37 h0.2.2.2.2.2.2.2.2.2.1.1 rfl ?_
  refine wcsI (st2 := []) k128_40 (cw161 (S := S)) (by decide) rfl rfl rfl (by decide) (fun x40 W40 g40 => ?_)
  have f40 := FR.t f23 g40
  refine wp_istore_n (L1 := [_, _, _, _, _, _]) k128_43 rfl rfl ?_
  refine wp_iload_n k128_44 rfl rfl ?_
  refine wp_istore (L1 := [_, _, _, _, _, _]) k128_45 rfl rfl ?_
  exact j47 _ _ _ _ _ _ (Nat.lt_succ_self _) f40
theorem cw129 {S : ww_S} {sh : List mm_C} {V : hV} {q0 : Nat} (h0 : kWho sh q0) {p1 : Int32} {p2 : Int32} : EVQ S 3 129 [.ref 64, .int p1, .int p2] (hH sh V) (wP sh V 15) := by
  have f0 := FR.r sh V
  have j9 : ∀  (W9 : hV), FR sh V W9 → WP S 2 mm_m129 9 [some (.ref 64), some (.int p1), some (.int p2)] [] (hH sh W9) (wP sh V 15) := by
    intro W9 f9
    exact wp_thr k129_9 rfl rfl ⟨_, f9, Or.inr ⟨rfl, rfl⟩⟩
  refine ev_of P129 rfl ?_
  refine wp_iload_n k129_0 rfl rfl ?_
  refine wp_if_lt k129_1 (fun c1 => ?_) (fun c1 => ?_)
  · exact j9  _ f0
  · refine wp_iload_n k129_4 rfl rfl ?_
    refine wp_iconst 2 k129_5 (by decide) ?_
    refine wp_if_icmp_le k129_6 (fun c6 => ?_) (fun c6 => ?_)
    · refine wp_aload_n k129_17 rfl rfl ?_
      refine wq_getR k129_18 h0.1 rfl ?_
      refine wq_getR k129_21 h0.2.2.2.2.1 rfl ?_
      refine wp_iload_n k129_24 rfl rfl ?_
      refine wp_iload_n k129_25 rfl rfl ?_
      refine wcvI (st2 := []) k129_26 (cw46 (S := S) h0.2.2.2.2.2.2.2.1) (by decide) rfl rfl rfl rfl h0.2.2.2.2.2.2.2.1.1.h h0.2.2.2.2.2.2.2.1.1.o (by decide) (fun x26 W26 g26 => ?_)
      have f26 := FR.t f0 g26
      exact wp_retI k129_29 rfl ⟨_, f26, Or.inl ⟨_, rfl, rfl⟩⟩
    · exact j9  _ f0
theorem cw130 {S : ww_S} {sh : List mm_C} {V : hV} {q0 : Nat} (h0 : kWho sh q0) {p1 : Int32} : EVQ S 2 130 [.ref 64, .int p1] (hH sh V) (wP sh V 15) := by
  have f0 := FR.r sh V
  have j10 : ∀  (W10 : hV), FR sh V W10 → WP S 1 mm_m130 10 [some (.ref 64), some (.int p1)] [] (hH sh W10) (wP sh V 15) := by
    intro W10 f10
    exact wp_thr k130_10 rfl rfl ⟨_, f10, Or.inr ⟨rfl, rfl⟩⟩
  refine ev_of P130 rfl ?_
  refine wp_iload_n k130_0 rfl rfl ?_
  refine wp_if_lt k130_1 (fun c1 => ?_) (fun c1 => ?_)
  · exact j10  _ f0
  · refine wp_iload_n k130_4 rfl rfl ?_
    refine wp_bipush 7 k130_5 (by decide) ?_
    refine wp_if_icmp_lt k130_7 (fun c7 => ?_) (fun c7 => ?_)
    · refine wp_aload_n k130_18 rfl rfl ?_
      refine wq_getR k130_19 h0.1 rfl ?_
      refine wq_getR k130_22 h0.2.2.2.2.1 rfl ?_
      refine wq_getR k130_25 h0.2.2.2.2.2.2.2.1.1 rfl ?_
      refine wp_iload_n k130_28 rfl rfl ?_
      refine wcsI (st2 := []) k130_29 (cw156 (S := S) h0.2.2.2.2.2.2.2.1.2.2.2.2 (by decide)) (by decide) rfl rfl rfl (by decide) (fun x29 W29 g29 => ?_)
      have f29 := FR.t f0 g29
      exact wp_retI k130_32 rfl ⟨_, f29, Or.inl ⟨_, rfl, rfl⟩⟩
    · exact j10  _ f0
theorem cw131 {S : ww_S} {sh : List mm_C} {V : hV} {q0 : Nat} (h0 : kWho sh q0) : EVQ S 3 131 [.ref 64] (hH sh V) (wI sh V) := by
  have f0 := FR.r sh V
  refine ev_of P131 rfl ?_
  refine wp_aload_n k131_0 rfl rfl ?_
  refine wq_getR k131_1 h0.1 rfl ?_
  refine wq_getR k131_4 h0.2.2.2.2.1 rfl ?_
  refine wq_getR k131_7 h0.2.2.2.2.2.2.2.1.1 rfl ?_
  refine wp_iconst 5 k131_10 (by decide) ?_
  refine wcsI (st2 := []) k131_11 (cw156 (S := S) h0.2.2.2.2.2.2.2.1.2.2.2.2 (by decide)) (by decide) rfl rfl rfl (by decide) (fun x11 W11 g11 => ?_)
  have f11 := FR.t f0 g11
  refine wp_istore_n (L1 := [_, _]) k131_14 rfl rfl ?_
  refine wp_aload_n k131_15 rfl rfl ?_
  refine wq_getR k131_16 h0.1 rfl ?_
  refine wq_getR k131_19 h0.2.2.2.2.1 rfl ?_
  refine wq_getI k131_22 h0.2.2.2.2.2.2.2.2.1 rfl ?_
  refine wcsI (st2 := []) k131_25 (cw360 (S := S)) (by decide) rfl rfl rfl (by decide) (fun x25 W25 g25 => ?_)
  have f25 := FR.t f11 g25
  refine wp_aload_n k131_28 rfl rfl ?_
  refine wq_getR k131_29 h0.1 rfl ?_
  refine wq_getR k131_32 h0.2.2.2.2.1 rfl ?_
  refine wcvI (st2 := [_]) k131_35 (cw28 (S := S) h0.2.2.2.2.2.1) (by decide) rfl rfl rfl rfl h0.2.2.2.2.2.1.1.h h0.2.2.2.2.2.1.1.o (by decide) (fun x35 W35 g35 => ?_)
  have f35 := FR.t f25 g35
  refine wp_isub k131_38 ?_
  refine wp_iload_n k131_39 rfl rfl ?_
  refine wp_isub k131_40 ?_
  exact wp_retI k131_41 rfl ⟨_, _, rfl, rfl, f35⟩
end M46
