section M58
/-! ===== the reference: the mean, sizes, letters, a byte of the output ===== -/
theorem q_meanAlike {S : ww_S} {sh : List mm_C} {V : hV} (hM : MS sh) {n : Nat} (hn : V.1 313 1 = Int32.ofNat n) (h1 : 1 ≤ n) (h5 : n ≤ 5) (hl : ¬ V.1 313 2 = 0) : EVQ S 4 291 [.ref 312] (hH sh V) (fun v g => ∃ (x : UInt64) (W : hV), v = .inl (some (.double x)) ∧ g = hH sh W ∧ FrQ V W) := by
  have EQ : EV S 1 179 [.ref 312] (hH sh (up V 312 6 0)) (.inl (some (.int (Int32.ofNat n)))) (hH sh (up V 312 6 0)) := by
    have := e_persons (S := S) (V := up V 312 6 0) hM
    rw [show (up V 312 6 0).1 313 1 = Int32.ofNat n from hn] at this
    exact this
  have inner : ∀ p, p < n → (∀ (x : Int32) (y : Option Value), WP S 3 mm_m291 9 [some (.ref 312), some (.int x), some (.int (Int32.ofNat (p + 1))), y] [] (hH sh (up V 312 6 0)) (fun v g => ∃ (x : UInt64) (W : hV), v = .inl (some (.double x)) ∧ g = hH sh W ∧ FrQ V W)) → ∀ (g i : Nat) (x : Int32), g + i = 32 → WP S 3 mm_m291 19 [some (.ref 312), some (.int x), some (.int (Int32.ofNat p)), some (.int (Int32.ofNat i))] [] (hH sh (up V 312 6 0)) (fun v g => ∃ (x : UInt64) (W : hV), v = .inl (some (.double x)) ∧ g = hH sh W ∧ FrQ V W) := by
    intro p hp E g
    induction g with
    | zero =>
      intro i x hi
      have hi : 32 = i := by omega
      subst hi
      refine wp_iload_n k291_19 rfl rfl ?_
      refine wp_bipush 32 k291_20 (by decide) ?_
      refine wp_if_icmp_ge_T k291_22 (i_nlt (k := 32) (n := 32) (by decide) (by decide)) ?_
      refine wp_iinc (L1 := [_, _, _, _]) 1 k291_43 rfl (by decide) rfl ?_
      refine wp_goto k291_46 ?_
      rw [i_succ]
      exact E _ _
    | succ g ih =>
      intro i x hi
      refine wp_iload_n k291_19 rfl rfl ?_
      refine wp_bipush 32 k291_20 (by decide) ?_
      refine wp_if_icmp_ge_F k291_22 (i_lt (n := 32) (by omega) (by decide)) ?_
      refine wp_iload_n k291_25 rfl rfl ?_
      refine wp_aload_n k291_26 rfl rfl ?_
      refine wp_iload_n k291_27 rfl rfl ?_
      refine wp_iload_n k291_28 rfl rfl ?_
      refine wp_cv (st2 := [_]) k291_29 (e_alikeTo hM (p := p) (w := i) (by omega) (by omega)) (by decide) rfl rfl rfl rfl (by decide) hM.o (by decide) ?_
      refine wp_cs (st2 := [_]) k291_32 (e_bits) (by decide) rfl rfl rfl (by decide) ?_
      refine wp_iadd k291_35 ?_
      refine wp_istore_n (L1 := [_, _, _, _]) k291_36 rfl rfl ?_
      refine wp_iinc (L1 := [_, _, _, _]) 1 k291_37 rfl (by decide) rfl ?_
      refine wp_goto k291_40 ?_
      rw [i_succ]
      exact ih (i + 1) _ (by omega)
  have outer : ∀ (g p : Nat) (x : Int32) (y : Option Value), g + p = n → WP S 3 mm_m291 9 [some (.ref 312), some (.int x), some (.int (Int32.ofNat p)), y] [] (hH sh (up V 312 6 0)) (fun v g => ∃ (x : UInt64) (W : hV), v = .inl (some (.double x)) ∧ g = hH sh W ∧ FrQ V W) := by
    intro g
    induction g with
    | zero =>
      intro p x y hp
      have hp : n = p := by omega
      subst hp
      refine wp_iload_n k291_9 rfl rfl ?_
      refine wp_aload_n k291_10 rfl rfl ?_
      refine wp_cv (st2 := [_]) k291_11 EQ (by decide) rfl rfl rfl rfl (by decide) hM.o (by decide) ?_
      refine wp_if_icmp_ge_T k291_14 (i_nlt (Nat.le_refl _) (by omega)) ?_
      skip
      have c1 : 1 ≤ cnt (V.1 313 2) := by
        have := cnt_clear hl
        omega
      have c2 := cnt_le (V.1 313 2)
      refine wp_iload_n k291_49 rfl rfl ?_
      refine wp_i2d k291_50 ?_
      refine wp_aload_n k291_51 rfl rfl ?_
      refine wp_getR k291_52 (by decide) hM.o rfl ?_
      refine wp_iconst 2 k291_55 (by decide) ?_
      refine wp_iaload k291_56 (by decide) hM.a313 (by decide) 2 (by decide) _ rfl ?_
      refine wp_cs (st2 := [_]) k291_57 e_bits (by decide) rfl rfl rfl (by decide) ?_
      refine wp_aload_n k291_60 rfl rfl ?_
      refine wp_cv (st2 := [_, _]) k291_61 EQ (by decide) rfl rfl rfl rfl (by decide) hM.o (by decide) ?_
      refine wp_imul k291_64 ?_
      refine wp_i2d k291_65 ?_
      refine wp_ddiv k291_66 (dd_ok (mul_ok (a := cnt (V.1 313 2)) (by omega) ⟨n, h5, rfl⟩ (fun z => ?_))) ?_
      · rw [← Int32.ofNat_mul] at z
        have hz := i_inj (a := cnt (V.1 313 2) * n) (b := 0) (by have := Nat.mul_le_mul c2 h5; omega) (by decide) z
        have := Nat.mul_le_mul c1 h1
        omega
      · exact wp_retD k291_67 rfl ⟨_, _, rfl, rfl, fq_6⟩
    | succ g ih =>
      intro p x y hp
      refine wp_iload_n k291_9 rfl rfl ?_
      refine wp_aload_n k291_10 rfl rfl ?_
      refine wp_cv (st2 := [_]) k291_11 EQ (by decide) rfl rfl rfl rfl (by decide) hM.o (by decide) ?_
      refine wp_if_icmp_ge_F k291_14 (i_lt (by omega) (by omega)) ?_
      refine wp_iconst 0 k291_17 (by decide) ?_
      refine wp_istore_n (L1 := [_, _, _, _]) k291_18 rfl rfl ?_
      exact inner p (by omega) (fun x y => ih (p + 1) x y (by omega)) 32 0 _ rfl
  refine ev_of P291 rfl ?_
  refine wp_aload_n k291_0 rfl rfl ?_
  refine wp_iconst 0 k291_1 (by decide) ?_
  refine wp_putI k291_2 (by decide) hM.o rfl rfl rfl ?_
  refine wp_iconst 0 k291_5 (by decide) ?_
  refine wp_istore_n (L1 := [_, _, _, _]) k291_6 rfl rfl ?_
  refine wp_iconst 0 k291_7 (by decide) ?_
  refine wp_istore_n (L1 := [_, _, _, _]) k291_8 rfl rfl ?_
  exact outer n 0 _ _ rfl
theorem inI_natB {x : Int32} {n : Nat} (hn : n ≤ 2000) (h : inI x 0 (Int32.ofNat n - 1) = true) : ∃ k : Nat, k < n ∧ x = Int32.ofNat k := by
  unfold inI at h
  obtain ⟨h1, h2⟩ := of_decide_eq_true h
  have h1 := Int32.le_iff_toInt_le.mp h1
  have h2 := Int32.le_iff_toInt_le.mp h2
  rw [Int32.toInt_zero] at h1
  have h3 : (Int32.ofNat n - 1).toInt = (n : Int) - 1 := by
    cases n with
    | zero => rfl
    | succ m =>
      rw [i_pred (by omega), show m + 1 - 1 = m by omega, Int32.toInt_ofNat_of_lt (by omega)]
      omega
  rw [h3] at h2
  refine ⟨x.toInt.toNat, by omega, Int32.toInt.inj ?_⟩
  rw [Int32.toInt_ofNat_of_lt (by omega)]
  omega
theorem q_outputByte {S : ww_S} {sh : List mm_C} {V : hV} (hM : MS sh) {o : Nat} (ho : V.1 312 26 = Int32.ofNat o) (h2 : o ≤ 2000) {x : Int32} : EVQ S 3 310 [.ref 312, .int x] (hH sh V) (qI sh V) := by
  have EI : EV S 1 171 [.long x.toInt64, .long 0, .long (V.1 312 26 - 1).toInt64] (hH sh (up V 312 6 0)) (.inl (some (.int (bI (inI x 0 (V.1 312 26 - 1)))))) (hH sh (up V 312 6 0)) := e_inI
  refine ev_of P310 rfl ?_
  by_cases hb : inI x 0 (V.1 312 26 - 1) = true
  · have hb2 := hb
    rw [ho] at hb
    obtain ⟨k, hk, he⟩ := inI_natB h2 hb
    subst he
    refine wp_aload_n k310_0 rfl rfl ?_
    refine wp_iconst 0 k310_1 (by decide) ?_
    refine wp_putI k310_2 (by decide) hM.o rfl rfl rfl ?_
    refine wp_iload_n k310_5 rfl rfl ?_
    refine wp_i2l k310_6 ?_
    refine wp_lconst 0 k310_7 (by decide) ?_
    refine wp_aload_n k310_8 rfl rfl ?_
    refine wp_getI k310_9 (by decide) hM.o rfl _ rfl ?_
    refine wp_iconst 1 k310_12 (by decide) ?_
    refine wp_isub k310_13 ?_
    refine wp_i2l k310_14 ?_
    refine wp_cs (st2 := []) k310_15 EI (by decide) rfl rfl rfl (by decide) ?_
    refine wp_if_eq_F k310_18 (bI_n0.mpr hb2) ?_
    refine wp_aload_n k310_21 rfl rfl ?_
    refine wp_getR k310_22 (by decide) hM.o rfl ?_
    refine wp_iload_n k310_25 rfl rfl ?_
    refine wp_iaload k310_26 (by decide) (hM.a322) (i_inO (by omega) (by decide)) (k) (i_un (by omega)) _ rfl ?_
    refine wp_goto k310_27 ?_
    exact wp_retI k310_31 rfl ⟨_, _, rfl, rfl, (by first | exact fq_6 | exact fq_6.t fq_ask | exact fq_ask | exact FrQ.r _ | exact (fq_6.t fq_8) | exact fq_8)⟩
  · skip
    refine wp_aload_n k310_0 rfl rfl ?_
    refine wp_iconst 0 k310_1 (by decide) ?_
    refine wp_putI k310_2 (by decide) hM.o rfl rfl rfl ?_
    refine wp_iload_n k310_5 rfl rfl ?_
    refine wp_i2l k310_6 ?_
    refine wp_lconst 0 k310_7 (by decide) ?_
    refine wp_aload_n k310_8 rfl rfl ?_
    refine wp_getI k310_9 (by decide) hM.o rfl _ rfl ?_
    refine wp_iconst 1 k310_12 (by decide) ?_
    refine wp_isub k310_13 ?_
    refine wp_i2l k310_14 ?_
    refine wp_cs (st2 := []) k310_15 EI (by decide) rfl rfl rfl (by decide) ?_
    refine wp_if_eq_T k310_18 (bI_0.mpr (Bool.eq_false_iff.mpr hb)) ?_
    refine wp_iconst (-1) k310_30 (by decide) ?_
    exact wp_retI k310_31 rfl ⟨_, _, rfl, rfl, (by first | exact fq_6 | exact fq_6.t fq_ask | exact fq_ask | exact FrQ.r _ | exact (fq_6.t fq_8) | exact fq_8)⟩
theorem q_depthOf {S : ww_S} {sh : List mm_C} {V : hV} (hM : MS sh) {n m : Nat} (hF : FOK V n 313 320 m) : EVQ S 2 197 [.ref 312, .ref 313, .int (Int32.ofNat 320)] (hH sh V) (qI sh V) := by
  obtain ⟨hm, hm1, hm60, hN⟩ := hF
  have key : ∀ (g k : Nat) (W : hV) (y5 y6 : Option Value), g + k = m → (∀ a, a ≠ 318 → W.1 a = V.1 a) → WP S 1 mm_m197 8 [some (.ref 312), some (.ref 313), some (.int (Int32.ofNat 320)), some (.ref 318), some (.int (Int32.ofNat k)), y5, y6] [] (hH sh W) (qI sh V) := by
    intro g
    induction g with
    | zero =>
      intro k W y5 y6 hk f
      have hk : m = k := by omega
      subst hk
      have hmW : W.1 313 320 = Int32.ofNat m := (congrFun (f 313 (by decide)) 320).trans hm
      have fq : FrQ V W := ⟨fun a _ _ _ h => f a h, fun j _ => congrFun (f 313 (by decide)) j, fun j _ => congrFun (f 312 (by decide)) j⟩
      refine wp_iload k197_8 rfl rfl ?_
      refine wp_aload_n k197_10 rfl rfl ?_
      refine wp_iload_n k197_11 rfl rfl ?_
      refine wp_iaload k197_12 (by decide) hM.a313 (i_inO (by omega) (by decide)) (320) (i_un (by omega)) (Int32.ofNat m) hmW ?_
      refine wp_if_icmp_ge_T k197_13 (i_nlt (Nat.le_refl _) (by omega)) ?_
      refine wp_aload_n k197_124 rfl rfl ?_
      refine wp_aload_n k197_125 rfl rfl ?_
      refine wp_iload_n k197_126 rfl rfl ?_
      refine wp_iaload k197_127 (by decide) hM.a313 (i_inO (by omega) (by decide)) (320) (i_un (by omega)) (Int32.ofNat m) hmW ?_
      refine wp_iconst 1 k197_128 (by decide) ?_
      refine wp_isub k197_129 ?_
      refine wp_cast (i_pred (by omega)) ?_
      refine wp_iaload k197_130 (by decide) hM.a318 (i_inO (by omega) (by decide)) (m - 1) (i_un (by omega)) _ rfl ?_
      exact wp_retI k197_131 rfl ⟨_, _, rfl, rfl, fq⟩
    | succ g ih =>
      intro k W y5 y6 hk f
      obtain ⟨kn, a, c, e1, e2, e3, e4, e5, e6, _⟩ := hN k (by omega)
      have hmW : W.1 313 320 = Int32.ofNat m := (congrFun (f 313 (by decide)) 320).trans hm
      have w1 : W.1 313 (320 + 1 + 4 * k) = Int32.ofNat kn := (congrFun (f 313 (by decide)) _).trans e1
      have w2 : W.1 313 (320 + 1 + 4 * k + 1) = Int32.ofNat a := (congrFun (f 313 (by decide)) _).trans e2
      have w3 : W.1 313 (320 + 1 + 4 * k + 2) = Int32.ofNat c := (congrFun (f 313 (by decide)) _).trans e3
      have fu : ∀ x, ∀ b, b ≠ 318 → (up W 318 k x).1 b = V.1 b := fun x b hb => (funext fun j => up_ne _ _ (Or.inl hb)).trans (f b hb)
      refine wp_iload k197_8 rfl rfl ?_
      refine wp_aload_n k197_10 rfl rfl ?_
      refine wp_iload_n k197_11 rfl rfl ?_
      refine wp_iaload k197_12 (by decide) hM.a313 (i_inO (by omega) (by decide)) (320) (i_un (by omega)) (Int32.ofNat m) hmW ?_
      refine wp_if_icmp_ge_F k197_13 (i_lt (by omega) (by omega)) ?_
      refine wp_iload_n k197_16 rfl rfl ?_
      refine wp_iconst 1 k197_17 (by decide) ?_
      refine wp_iadd k197_18 ?_
      refine wp_cast (show Int32.ofNat (320) + (1 : Int32) = Int32.ofNat (320 + 1) from (Int32.ofNat_add _ 1).symm) ?_
      refine wp_iconst 4 k197_19 (by decide) ?_
      refine wp_iload k197_20 rfl rfl ?_
      refine wp_imul k197_22 ?_
      refine wp_cast (show (4 : Int32) * Int32.ofNat (k) = Int32.ofNat (4 * k) from (Int32.ofNat_mul 4 _).symm) ?_
      refine wp_iadd k197_23 ?_
      refine wp_cast (i_add _ _) ?_
      refine wp_istore (L1 := [_, _, _, _, _, _, _]) k197_24 rfl rfl ?_
      refine wp_aload_n k197_26 rfl rfl ?_
      refine wp_iload k197_27 rfl rfl ?_
      refine wp_iaload k197_29 (by decide) hM.a313 (i_inO (by omega) (by decide)) ((320 + 1) + (4 * k)) (i_un (by omega)) (Int32.ofNat kn) w1 ?_
      refine wp_istore (L1 := [_, _, _, _, _, _, _]) k197_30 rfl rfl ?_
      refine wp_iload k197_32 rfl rfl ?_
      refine wp_if_ne k197_34 (fun c34 => ?_) (fun c34 => ?_)
      · refine wp_iload k197_45 rfl rfl ?_
        refine wp_iconst 1 k197_47 (by decide) ?_
        refine wp_if_icmp_ne k197_48 (fun c48 => ?_) (fun c48 => ?_)
        · refine wp_iload k197_66 rfl rfl ?_
          refine wp_iconst 2 k197_68 (by decide) ?_
          refine wp_if_icmp_eq k197_69 (fun c69 => ?_) (fun c69 => ?_)
          · refine wp_aload_n k197_78 rfl rfl ?_
            refine wp_iload k197_79 rfl rfl ?_
            refine wp_aload_n k197_81 rfl rfl ?_
            refine wp_aload_n k197_82 rfl rfl ?_
            refine wp_iload k197_83 rfl rfl ?_
            refine wp_iconst 1 k197_85 (by decide) ?_
            refine wp_iadd k197_86 ?_
            refine wp_cast (show Int32.ofNat ((320 + 1) + (4 * k)) + (1 : Int32) = Int32.ofNat (((320 + 1) + (4 * k)) + 1) from (Int32.ofNat_add _ 1).symm) ?_
            refine wp_iaload k197_87 (by decide) hM.a313 (i_inO (by omega) (by decide)) (((320 + 1) + (4 * k)) + 1) (i_un (by omega)) (Int32.ofNat a) w2 ?_
            refine wp_iaload k197_88 (by decide) hM.a318 (i_inO (by omega) (by decide)) (a) (i_un (by omega)) _ rfl ?_
            refine wp_aload_n k197_89 rfl rfl ?_
            refine wp_aload_n k197_90 rfl rfl ?_
            refine wp_iload k197_91 rfl rfl ?_
            refine wp_iconst 2 k197_93 (by decide) ?_
            refine wp_iadd k197_94 ?_
            refine wp_cast (show Int32.ofNat ((320 + 1) + (4 * k)) + (2 : Int32) = Int32.ofNat (((320 + 1) + (4 * k)) + 2) from (Int32.ofNat_add _ 2).symm) ?_
            refine wp_iaload k197_95 (by decide) hM.a313 (i_inO (by omega) (by decide)) (((320 + 1) + (4 * k)) + 2) (i_un (by omega)) (Int32.ofNat c) w3 ?_
            refine wp_iaload k197_96 (by decide) hM.a318 (i_inO (by omega) (by decide)) (c) (i_un (by omega)) _ rfl ?_
            refine wp_max k197_97 rfl ?_
            refine wp_iastore k197_100 (by decide) hM.a318 (i_inO (by omega) (by decide)) (k) (i_un (by omega)) ?_
            refine wp_goto k197_101 ?_
            refine wp_iinc (L1 := [_, _, _, _, _, _, _]) 1 k197_118 rfl (by decide) rfl ?_
            refine wp_goto k197_121 ?_
            rw [i_succ]
            exact ih (k + 1) _ _ _ (by omega) (fu _)
          · refine wp_iload k197_72 rfl rfl ?_
            refine wp_iconst 3 k197_74 (by decide) ?_
            refine wp_if_icmp_ne k197_75 (fun c75 => ?_) (fun c75 => ?_)
            · refine wp_aload_n k197_104 rfl rfl ?_
              refine wp_iload k197_105 rfl rfl ?_
              refine wp_aload_n k197_107 rfl rfl ?_
              refine wp_aload_n k197_108 rfl rfl ?_
              refine wp_iload k197_109 rfl rfl ?_
              refine wp_iconst 1 k197_111 (by decide) ?_
              refine wp_iadd k197_112 ?_
              refine wp_cast (show Int32.ofNat ((320 + 1) + (4 * k)) + (1 : Int32) = Int32.ofNat (((320 + 1) + (4 * k)) + 1) from (Int32.ofNat_add _ 1).symm) ?_
              refine wp_iaload k197_113 (by decide) hM.a313 (i_inO (by omega) (by decide)) (((320 + 1) + (4 * k)) + 1) (i_un (by omega)) (Int32.ofNat a) w2 ?_
              refine wp_iaload k197_114 (by decide) hM.a318 (i_inO (by omega) (by decide)) (a) (i_un (by omega)) _ rfl ?_
              refine wp_iconst 1 k197_115 (by decide) ?_
              refine wp_iadd k197_116 ?_
              refine wp_iastore k197_117 (by decide) hM.a318 (i_inO (by omega) (by decide)) (k) (i_un (by omega)) ?_
              refine wp_iinc (L1 := [_, _, _, _, _, _, _]) 1 k197_118 rfl (by decide) rfl ?_
              refine wp_goto k197_121 ?_
              rw [i_succ]
              exact ih (k + 1) _ _ _ (by omega) (fu _)
            · refine wp_aload_n k197_78 rfl rfl ?_
              refine wp_iload k197_79 rfl rfl ?_
              refine wp_aload_n k197_81 rfl rfl ?_
              refine wp_aload_n k197_82 rfl rfl ?_
              refine wp_iload k197_83 rfl rfl ?_
              refine wp_iconst 1 k197_85 (by decide) ?_
              refine wp_iadd k197_86 ?_
              refine wp_cast (show Int32.ofNat ((320 + 1) + (4 * k)) + (1 : Int32) = Int32.ofNat (((320 + 1) + (4 * k)) + 1) from (Int32.ofNat_add _ 1).symm) ?_
              refine wp_iaload k197_87 (by decide) hM.a313 (i_inO (by omega) (by decide)) (((320 + 1) + (4 * k)) + 1) (i_un (by omega)) (Int32.ofNat a) w2 ?_
              refine wp_iaload k197_88 (by decide) hM.a318 (i_inO (by omega) (by decide)) (a) (i_un (by omega)) _ rfl ?_
              refine wp_aload_n k197_89 rfl rfl ?_
              refine wp_aload_n k197_90 rfl rfl ?_
              refine wp_iload k197_91 rfl rfl ?_
              refine wp_iconst 2 k197_93 (by decide) ?_
              refine wp_iadd k197_94 ?_
              refine wp_cast (show Int32.ofNat ((320 + 1) + (4 * k)) + (2 : Int32) = Int32.ofNat (((320 + 1) + (4 * k)) + 2) from (Int32.ofNat_add _ 2).symm) ?_
              refine wp_iaload k197_95 (by decide) hM.a313 (i_inO (by omega) (by decide)) (((320 + 1) + (4 * k)) + 2) (i_un (by omega)) (Int32.ofNat c) w3 ?_
              refine wp_iaload k197_96 (by decide) hM.a318 (i_inO (by omega) (by decide)) (c) (i_un (by omega)) _ rfl ?_
              refine wp_max k197_97 rfl ?_
              refine wp_iastore k197_100 (by decide) hM.a318 (i_inO (by omega) (by decide)) (k) (i_un (by omega)) ?_
              refine wp_goto k197_101 ?_
              refine wp_iinc (L1 := [_, _, _, _, _, _, _]) 1 k197_118 rfl (by decide) rfl ?_
              refine wp_goto k197_121 ?_
              rw [i_succ]
              exact ih (k + 1) _ _ _ (by omega) (fu _)
        · refine wp_aload_n k197_51 rfl rfl ?_
          refine wp_iload k197_52 rfl rfl ?_
          refine wp_aload_n k197_54 rfl rfl ?_
          refine wp_aload_n k197_55 rfl rfl ?_
          refine wp_iload k197_56 rfl rfl ?_
          refine wp_iconst 1 k197_58 (by decide) ?_
          refine wp_iadd k197_59 ?_
          refine wp_cast (show Int32.ofNat ((320 + 1) + (4 * k)) + (1 : Int32) = Int32.ofNat (((320 + 1) + (4 * k)) + 1) from (Int32.ofNat_add _ 1).symm) ?_
          refine wp_iaload k197_60 (by decide) hM.a313 (i_inO (by omega) (by decide)) (((320 + 1) + (4 * k)) + 1) (i_un (by omega)) (Int32.ofNat a) w2 ?_
          refine wp_iaload k197_61 (by decide) hM.a318 (i_inO (by omega) (by decide)) (a) (i_un (by omega)) _ rfl ?_
          refine wp_iastore k197_62 (by decide) hM.a318 (i_inO (by omega) (by decide)) (k) (i_un (by omega)) ?_
          refine wp_goto k197_63 ?_
          refine wp_iinc (L1 := [_, _, _, _, _, _, _]) 1 k197_118 rfl (by decide) rfl ?_
          refine wp_goto k197_121 ?_
          rw [i_succ]
          exact ih (k + 1) _ _ _ (by omega) (fu _)
      · refine wp_aload_n k197_37 rfl rfl ?_
        refine wp_iload k197_38 rfl rfl ?_
        refine wp_iconst 0 k197_40 (by decide) ?_
        refine wp_iastore k197_41 (by decide) hM.a318 (i_inO (by omega) (by decide)) (k) (i_un (by omega)) ?_
        refine wp_goto k197_42 ?_
        refine wp_iinc (L1 := [_, _, _, _, _, _, _]) 1 k197_118 rfl (by decide) rfl ?_
        refine wp_goto k197_121 ?_
        rw [i_succ]
        exact ih (k + 1) _ _ _ (by omega) (fu _)
  refine ev_of P197 rfl ?_
  refine wp_aload_n k197_0 rfl rfl ?_
  refine wp_getR k197_1 (by decide) hM.o rfl ?_
  refine wp_astore_n (L1 := [_, _, _, _, _, _, _]) k197_4 rfl rfl ?_
  refine wp_iconst 0 k197_5 (by decide) ?_
  refine wp_istore (L1 := [_, _, _, _, _, _, _]) k197_6 rfl rfl ?_
  exact key m 0 V _ _ rfl (fun _ _ => rfl)
theorem q_size {S : ww_S} {sh : List mm_C} {V : hV} (hM : MS sh) {n m : Nat} (hF : FOK V n 313 320 m) {y : Int32} : EVQ S 3 256 [.ref 312, .int y] (hH sh V) (qI sh V) := by
  have EI : EV S 1 171 [.long y.toInt64, .long 0, .long (Int64.ofNat 9)] (hH sh V) (.inl (some (.int (bI (inI y 0 9))))) (hH sh V) := by
    rw [show Int64.ofNat 9 = Int32.toInt64 9 from by decide]
    exact e_inI
  obtain ⟨v9, g9, ED, x9, W9, h1, h2, fD⟩ := q_depthOf (S := S) (V := up V 312 6 (bI (!inI y 0 9))) hM (n := n) (m := m) hF
  subst h1 h2
  refine ev_of P256 rfl ?_
  refine wp_aload_n k256_0 rfl rfl ?_
  refine wp_iload_n k256_1 rfl rfl ?_
  refine wp_i2l k256_2 ?_
  refine wp_lconst 0 k256_3 (by decide) ?_
  refine wp_ldc2_w k256_4 ?_
  refine wp_cs (st2 := [_]) k256_7 EI (by decide) rfl rfl rfl (by decide) ?_
  refine wp_cv (st2 := []) k256_10 (e_passes hM) (by decide) rfl rfl rfl rfl (by decide) hM.o (by decide) ?_
  refine wp_if_ne k256_13 (fun c13 => ?_) (fun c13 => ?_)
  · refine wp_iload_n k256_18 rfl rfl ?_
    refine wp_tsw k256_19 (fun i9 t9 g9 e9 => ?_) (fun c19 => ?_) (by decide)
    · have b9 : i9 < 9 := (List.getElem?_eq_some_iff.mp g9).1
      obtain rfl | rfl | rfl | rfl | rfl | rfl | rfl | rfl | rfl : i9 = 0 ∨ i9 = 1 ∨ i9 = 2 ∨ i9 = 3 ∨ i9 = 4 ∨ i9 = 5 ∨ i9 = 6 ∨ i9 = 7 ∨ i9 = 8 := by omega
      · cases g9
        refine wp_aload_n k256_68 rfl rfl ?_
        refine wp_cv (st2 := []) k256_69 (e_facts hM) (by decide) rfl rfl rfl rfl (by decide) hM.o (by decide) ?_
        first
          | exact wp_retI k256_72 rfl ⟨_, _, rfl, rfl, fq_6⟩
          | exact wp_retI k256_72 rfl ⟨_, _, rfl, rfl, fq_6.t fD⟩
      · cases g9
        refine wp_aload_n k256_73 rfl rfl ?_
        refine wp_cv (st2 := []) k256_74 (e_persons hM) (by decide) rfl rfl rfl rfl (by decide) hM.o (by decide) ?_
        first
          | exact wp_retI k256_77 rfl ⟨_, _, rfl, rfl, fq_6⟩
          | exact wp_retI k256_77 rfl ⟨_, _, rfl, rfl, fq_6.t fD⟩
      · cases g9
        refine wp_aload_n k256_78 rfl rfl ?_
        refine wp_getR k256_79 (by decide) hM.o rfl ?_
        refine wp_iconst 2 k256_82 (by decide) ?_
        refine wp_iaload k256_83 (by decide) (hM.a313) (by decide) 2 (by decide) _ rfl ?_
        refine wp_cs (st2 := []) k256_84 (e_bits) (by decide) rfl rfl rfl (by decide) ?_
        first
          | exact wp_retI k256_87 rfl ⟨_, _, rfl, rfl, fq_6⟩
          | exact wp_retI k256_87 rfl ⟨_, _, rfl, rfl, fq_6.t fD⟩
      · cases g9
        refine wp_aload_n k256_88 rfl rfl ?_
        refine wp_getR k256_89 (by decide) hM.o rfl ?_
        refine wp_iconst 3 k256_92 (by decide) ?_
        refine wp_iaload k256_93 (by decide) (hM.a313) (by decide) 3 (by decide) _ rfl ?_
        first
          | exact wp_retI k256_94 rfl ⟨_, _, rfl, rfl, fq_6⟩
          | exact wp_retI k256_94 rfl ⟨_, _, rfl, rfl, fq_6.t fD⟩
      · cases g9
        refine wp_aload_n k256_95 rfl rfl ?_
        refine wp_getR k256_96 (by decide) hM.o rfl ?_
        refine wp_iconst 4 k256_99 (by decide) ?_
        refine wp_iaload k256_100 (by decide) (hM.a313) (by decide) 4 (by decide) _ rfl ?_
        first
          | exact wp_retI k256_101 rfl ⟨_, _, rfl, rfl, fq_6⟩
          | exact wp_retI k256_101 rfl ⟨_, _, rfl, rfl, fq_6.t fD⟩
      · cases g9
        refine wp_aload_n k256_102 rfl rfl ?_
        refine wp_getR k256_103 (by decide) hM.o rfl ?_
        refine wp_sipush 320 k256_106 (by decide) ?_
        refine wp_iaload k256_109 (by decide) (hM.a313) (by decide) 320 (by decide) _ rfl ?_
        first
          | exact wp_retI k256_110 rfl ⟨_, _, rfl, rfl, fq_6⟩
          | exact wp_retI k256_110 rfl ⟨_, _, rfl, rfl, fq_6.t fD⟩
      · cases g9
        refine wp_aload_n k256_111 rfl rfl ?_
        refine wp_aload_n k256_112 rfl rfl ?_
        refine wp_getR k256_113 (by decide) hM.o rfl ?_
        refine wp_sipush 320 k256_116 (by decide) ?_
        refine wp_cv (st2 := []) k256_119 ED (by decide) rfl rfl rfl rfl (by decide) hM.o (by decide) ?_
        first
          | exact wp_retI k256_122 rfl ⟨_, _, rfl, rfl, fq_6⟩
          | exact wp_retI k256_122 rfl ⟨_, _, rfl, rfl, fq_6.t fD⟩
      · cases g9
        refine wp_aload_n k256_123 rfl rfl ?_
        refine wp_getR k256_124 (by decide) hM.o rfl ?_
        refine wp_iconst 5 k256_127 (by decide) ?_
        refine wp_iaload k256_128 (by decide) (hM.a313) (by decide) 5 (by decide) _ rfl ?_
        first
          | exact wp_retI k256_129 rfl ⟨_, _, rfl, rfl, fq_6⟩
          | exact wp_retI k256_129 rfl ⟨_, _, rfl, rfl, fq_6.t fD⟩
      · cases g9
        refine wp_aload_n k256_130 rfl rfl ?_
        refine wp_getR k256_131 (by decide) hM.o rfl ?_
        refine wp_bipush 6 k256_134 (by decide) ?_
        refine wp_iaload k256_136 (by decide) (hM.a313) (by decide) 6 (by decide) _ rfl ?_
        first
          | exact wp_retI k256_137 rfl ⟨_, _, rfl, rfl, fq_6⟩
          | exact wp_retI k256_137 rfl ⟨_, _, rfl, rfl, fq_6.t fD⟩
    · refine wp_aload_n k256_138 rfl rfl ?_
      refine wp_getI k256_139 (by decide) hM.o rfl _ rfl ?_
      first
        | exact wp_retI k256_142 rfl ⟨_, _, rfl, rfl, fq_6⟩
        | exact wp_retI k256_142 rfl ⟨_, _, rfl, rfl, fq_6.t fD⟩
  · refine wp_iconst 0 k256_16 (by decide) ?_
    first
      | exact wp_retI k256_17 rfl ⟨_, _, rfl, rfl, fq_6⟩
      | exact wp_retI k256_17 rfl ⟨_, _, rfl, rfl, fq_6.t fD⟩
theorem q_letter {S : ww_S} {sh : List mm_C} {V : hV} (hM : MS sh) {n nf : Nat} (hn : V.1 313 1 = Int32.ofNat n) (h5 : n ≤ 5) (hnf : V.1 313 0 = Int32.ofNat nf) (h5f : nf ≤ 5) (hN : NMS (V.1 313)) {x y z : Int32} : EVQ S 4 257 [.ref 312, .int x, .int y, .int z] (hH sh V) (qI sh V) := by
  have EI : ∀ (U : hV) (b : Int32), EV S 1 171 [.long z.toInt64, .long 0, .long b.toInt64] (hH sh U) (.inl (some (.int (bI (inI z 0 b))))) (hH sh U) := fun U b => e_inI
  refine ev_of P257 rfl ?_
  by_cases c : x = 0
  · skip
    by_cases hb : inI y 0 (V.1 313 0 - 1) = true
    · obtain ⟨i, hi, _, he⟩ := pe_of hnf h5f hb
      subst he
      obtain ⟨w, hw, hw2⟩ := (hN i hi).1
      by_cases hb2 : inI z 0 (V.1 313 (80 + 7 * i) - 1) = true
      · have hb3 := hb2
        rw [hw2] at hb2
        obtain ⟨k, hk, he2⟩ := inI_nat (n := w) (by omega) hb2
        subst he2
        refine wp_aload_n k257_0 rfl rfl ?_
        refine wp_iload_n k257_1 rfl rfl ?_
        refine wp_if_eq_T k257_2 c ?_
        refine wp_aload_n k257_13 rfl rfl ?_
        refine wp_iload_n k257_14 rfl rfl ?_
        refine wp_cv (st2 := [_]) k257_15 (e_isFact hM) (by decide) rfl rfl rfl rfl (by decide) hM.o (by decide) ?_
        refine wp_cv (st2 := []) k257_18 (e_passes hM) (by decide) rfl rfl rfl rfl (by decide) hM.o (by decide) ?_
        refine wp_if_ne_T k257_21 (bI_n0.mpr hb) ?_
        refine wp_iload_n k257_26 rfl rfl ?_
        refine wp_if_eq_T k257_27 c ?_
        refine wp_bipush 80 k257_35 (by decide) ?_
        refine wp_bipush 7 k257_37 (by decide) ?_
        refine wp_iload_n k257_39 rfl rfl ?_
        refine wp_imul k257_40 ?_
        refine wp_cast (show (7 : Int32) * Int32.ofNat (i) = Int32.ofNat (7 * i) from (Int32.ofNat_mul 7 _).symm) ?_
        refine wp_iadd k257_41 ?_
        refine wp_cast (show (80 : Int32) + Int32.ofNat (7 * i) = Int32.ofNat (80 + (7 * i)) from (Int32.ofNat_add 80 _).symm) ?_
        refine wp_istore (L1 := [_, _, _, _, _]) k257_42 rfl rfl ?_
        refine wp_iload_n k257_44 rfl rfl ?_
        refine wp_i2l k257_45 ?_
        refine wp_lconst 0 k257_46 (by decide) ?_
        refine wp_aload_n k257_47 rfl rfl ?_
        refine wp_getR k257_48 (by decide) hM.o rfl ?_
        refine wp_iload k257_51 rfl rfl ?_
        refine wp_iaload k257_53 (by decide) (hM.a313) (i_inO (by omega) (by decide)) (80 + (7 * i)) (i_un (by omega)) _ rfl ?_
        refine wp_iconst 1 k257_54 (by decide) ?_
        refine wp_isub k257_55 ?_
        refine wp_i2l k257_56 ?_
        refine wp_cs (st2 := []) k257_57 (EI _ _) (by decide) rfl rfl rfl (by decide) ?_
        refine wp_if_eq_F k257_60 (bI_n0.mpr hb3) ?_
        refine wp_aload_n k257_63 rfl rfl ?_
        refine wp_getR k257_64 (by decide) hM.o rfl ?_
        refine wp_iload k257_67 rfl rfl ?_
        refine wp_iconst 1 k257_69 (by decide) ?_
        refine wp_iadd k257_70 ?_
        refine wp_cast (show Int32.ofNat (80 + (7 * i)) + (1 : Int32) = Int32.ofNat ((80 + (7 * i)) + 1) from (Int32.ofNat_add _ 1).symm) ?_
        refine wp_iload_n k257_71 rfl rfl ?_
        refine wp_iadd k257_72 ?_
        refine wp_cast (i_add _ _) ?_
        refine wp_iaload k257_73 (by decide) (hM.a313) (i_inO (by omega) (by decide)) (((80 + (7 * i)) + 1) + k) (i_un (by omega)) _ rfl ?_
        refine wp_goto k257_74 ?_
        exact wp_retI k257_78 rfl ⟨_, _, rfl, rfl, (by first | exact fq_6 | exact fq_6.t fq_ask | exact fq_ask | exact FrQ.r _ | exact (fq_6.t fq_8) | exact fq_8)⟩
      · skip
        refine wp_aload_n k257_0 rfl rfl ?_
        refine wp_iload_n k257_1 rfl rfl ?_
        refine wp_if_eq_T k257_2 c ?_
        refine wp_aload_n k257_13 rfl rfl ?_
        refine wp_iload_n k257_14 rfl rfl ?_
        refine wp_cv (st2 := [_]) k257_15 (e_isFact hM) (by decide) rfl rfl rfl rfl (by decide) hM.o (by decide) ?_
        refine wp_cv (st2 := []) k257_18 (e_passes hM) (by decide) rfl rfl rfl rfl (by decide) hM.o (by decide) ?_
        refine wp_if_ne_T k257_21 (bI_n0.mpr hb) ?_
        refine wp_iload_n k257_26 rfl rfl ?_
        refine wp_if_eq_T k257_27 c ?_
        refine wp_bipush 80 k257_35 (by decide) ?_
        refine wp_bipush 7 k257_37 (by decide) ?_
        refine wp_iload_n k257_39 rfl rfl ?_
        refine wp_imul k257_40 ?_
        refine wp_cast (show (7 : Int32) * Int32.ofNat (i) = Int32.ofNat (7 * i) from (Int32.ofNat_mul 7 _).symm) ?_
        refine wp_iadd k257_41 ?_
        refine wp_cast (show (80 : Int32) + Int32.ofNat (7 * i) = Int32.ofNat (80 + (7 * i)) from (Int32.ofNat_add 80 _).symm) ?_
        refine wp_istore (L1 := [_, _, _, _, _]) k257_42 rfl rfl ?_
        refine wp_iload_n k257_44 rfl rfl ?_
        refine wp_i2l k257_45 ?_
        refine wp_lconst 0 k257_46 (by decide) ?_
        refine wp_aload_n k257_47 rfl rfl ?_
        refine wp_getR k257_48 (by decide) hM.o rfl ?_
        refine wp_iload k257_51 rfl rfl ?_
        refine wp_iaload k257_53 (by decide) (hM.a313) (i_inO (by omega) (by decide)) (80 + (7 * i)) (i_un (by omega)) _ rfl ?_
        refine wp_iconst 1 k257_54 (by decide) ?_
        refine wp_isub k257_55 ?_
        refine wp_i2l k257_56 ?_
        refine wp_cs (st2 := []) k257_57 (EI _ _) (by decide) rfl rfl rfl (by decide) ?_
        refine wp_if_eq_T k257_60 (bI_0.mpr (Bool.eq_false_iff.mpr hb2)) ?_
        refine wp_iconst (-1) k257_77 (by decide) ?_
        exact wp_retI k257_78 rfl ⟨_, _, rfl, rfl, (by first | exact fq_6 | exact fq_6.t fq_ask | exact fq_ask | exact FrQ.r _ | exact (fq_6.t fq_8) | exact fq_8)⟩
    · skip
      refine wp_aload_n k257_0 rfl rfl ?_
      refine wp_iload_n k257_1 rfl rfl ?_
      refine wp_if_eq_T k257_2 c ?_
      refine wp_aload_n k257_13 rfl rfl ?_
      refine wp_iload_n k257_14 rfl rfl ?_
      refine wp_cv (st2 := [_]) k257_15 (e_isFact hM) (by decide) rfl rfl rfl rfl (by decide) hM.o (by decide) ?_
      refine wp_cv (st2 := []) k257_18 (e_passes hM) (by decide) rfl rfl rfl rfl (by decide) hM.o (by decide) ?_
      refine wp_if_ne_F k257_21 (bI_0.mpr (Bool.eq_false_iff.mpr hb)) ?_
      refine wp_iconst 0 k257_24 (by decide) ?_
      exact wp_retI k257_25 rfl ⟨_, _, rfl, rfl, (by first | exact fq_6 | exact fq_6.t fq_ask | exact fq_ask | exact FrQ.r _ | exact (fq_6.t fq_8) | exact fq_8)⟩
  · skip
    by_cases hb : inI y 0 (V.1 313 1 - 1) = true
    · obtain ⟨i, hi, _, he⟩ := pe_of hn h5 hb
      subst he
      obtain ⟨w, hw, hw2⟩ := (hN i hi).2
      by_cases hb2 : inI z 0 (V.1 313 (115 + 7 * i) - 1) = true
      · have hb3 := hb2
        rw [hw2] at hb2
        obtain ⟨k, hk, he2⟩ := inI_nat (n := w) (by omega) hb2
        subst he2
        refine wp_aload_n k257_0 rfl rfl ?_
        refine wp_iload_n k257_1 rfl rfl ?_
        refine wp_if_eq_F k257_2 c ?_
        refine wp_aload_n k257_5 rfl rfl ?_
        refine wp_iload_n k257_6 rfl rfl ?_
        refine wp_cv (st2 := [_]) k257_7 (e_isPerson hM) (by decide) rfl rfl rfl rfl (by decide) hM.o (by decide) ?_
        refine wp_goto k257_10 ?_
        refine wp_cv (st2 := []) k257_18 (e_passes hM) (by decide) rfl rfl rfl rfl (by decide) hM.o (by decide) ?_
        refine wp_if_ne_T k257_21 (bI_n0.mpr hb) ?_
        refine wp_iload_n k257_26 rfl rfl ?_
        refine wp_if_eq_F k257_27 c ?_
        refine wp_bipush 115 k257_30 (by decide) ?_
        refine wp_goto k257_32 ?_
        refine wp_bipush 7 k257_37 (by decide) ?_
        refine wp_iload_n k257_39 rfl rfl ?_
        refine wp_imul k257_40 ?_
        refine wp_cast (show (7 : Int32) * Int32.ofNat (i) = Int32.ofNat (7 * i) from (Int32.ofNat_mul 7 _).symm) ?_
        refine wp_iadd k257_41 ?_
        refine wp_cast (show (115 : Int32) + Int32.ofNat (7 * i) = Int32.ofNat (115 + (7 * i)) from (Int32.ofNat_add 115 _).symm) ?_
        refine wp_istore (L1 := [_, _, _, _, _]) k257_42 rfl rfl ?_
        refine wp_iload_n k257_44 rfl rfl ?_
        refine wp_i2l k257_45 ?_
        refine wp_lconst 0 k257_46 (by decide) ?_
        refine wp_aload_n k257_47 rfl rfl ?_
        refine wp_getR k257_48 (by decide) hM.o rfl ?_
        refine wp_iload k257_51 rfl rfl ?_
        refine wp_iaload k257_53 (by decide) (hM.a313) (i_inO (by omega) (by decide)) (115 + (7 * i)) (i_un (by omega)) _ rfl ?_
        refine wp_iconst 1 k257_54 (by decide) ?_
        refine wp_isub k257_55 ?_
        refine wp_i2l k257_56 ?_
        refine wp_cs (st2 := []) k257_57 (EI _ _) (by decide) rfl rfl rfl (by decide) ?_
        refine wp_if_eq_F k257_60 (bI_n0.mpr hb3) ?_
        refine wp_aload_n k257_63 rfl rfl ?_
        refine wp_getR k257_64 (by decide) hM.o rfl ?_
        refine wp_iload k257_67 rfl rfl ?_
        refine wp_iconst 1 k257_69 (by decide) ?_
        refine wp_iadd k257_70 ?_
        refine wp_cast (show Int32.ofNat (115 + (7 * i)) + (1 : Int32) = Int32.ofNat ((115 + (7 * i)) + 1) from (Int32.ofNat_add _ 1).symm) ?_
        refine wp_iload_n k257_71 rfl rfl ?_
        refine wp_iadd k257_72 ?_
        refine wp_cast (i_add _ _) ?_
        refine wp_iaload k257_73 (by decide) (hM.a313) (i_inO (by omega) (by decide)) (((115 + (7 * i)) + 1) + k) (i_un (by omega)) _ rfl ?_
        refine wp_goto k257_74 ?_
        exact wp_retI k257_78 rfl ⟨_, _, rfl, rfl, (by first | exact fq_6 | exact fq_6.t fq_ask | exact fq_ask | exact FrQ.r _ | exact (fq_6.t fq_8) | exact fq_8)⟩
      · skip
        refine wp_aload_n k257_0 rfl rfl ?_
        refine wp_iload_n k257_1 rfl rfl ?_
        refine wp_if_eq_F k257_2 c ?_
        refine wp_aload_n k257_5 rfl rfl ?_
        refine wp_iload_n k257_6 rfl rfl ?_
        refine wp_cv (st2 := [_]) k257_7 (e_isPerson hM) (by decide) rfl rfl rfl rfl (by decide) hM.o (by decide) ?_
        refine wp_goto k257_10 ?_
        refine wp_cv (st2 := []) k257_18 (e_passes hM) (by decide) rfl rfl rfl rfl (by decide) hM.o (by decide) ?_
        refine wp_if_ne_T k257_21 (bI_n0.mpr hb) ?_
        refine wp_iload_n k257_26 rfl rfl ?_
        refine wp_if_eq_F k257_27 c ?_
        refine wp_bipush 115 k257_30 (by decide) ?_
        refine wp_goto k257_32 ?_
        refine wp_bipush 7 k257_37 (by decide) ?_
        refine wp_iload_n k257_39 rfl rfl ?_
        refine wp_imul k257_40 ?_
        refine wp_cast (show (7 : Int32) * Int32.ofNat (i) = Int32.ofNat (7 * i) from (Int32.ofNat_mul 7 _).symm) ?_
        refine wp_iadd k257_41 ?_
        refine wp_cast (show (115 : Int32) + Int32.ofNat (7 * i) = Int32.ofNat (115 + (7 * i)) from (Int32.ofNat_add 115 _).symm) ?_
        refine wp_istore (L1 := [_, _, _, _, _]) k257_42 rfl rfl ?_
        refine wp_iload_n k257_44 rfl rfl ?_
        refine wp_i2l k257_45 ?_
        refine wp_lconst 0 k257_46 (by decide) ?_
        refine wp_aload_n k257_47 rfl rfl ?_
        refine wp_getR k257_48 (by decide) hM.o rfl ?_
        refine wp_iload k257_51 rfl rfl ?_
        refine wp_iaload k257_53 (by decide) (hM.a313) (i_inO (by omega) (by decide)) (115 + (7 * i)) (i_un (by omega)) _ rfl ?_
        refine wp_iconst 1 k257_54 (by decide) ?_
        refine wp_isub k257_55 ?_
        refine wp_i2l k257_56 ?_
        refine wp_cs (st2 := []) k257_57 (EI _ _) (by decide) rfl rfl rfl (by decide) ?_
        refine wp_if_eq_T k257_60 (bI_0.mpr (Bool.eq_false_iff.mpr hb2)) ?_
        refine wp_iconst (-1) k257_77 (by decide) ?_
        exact wp_retI k257_78 rfl ⟨_, _, rfl, rfl, (by first | exact fq_6 | exact fq_6.t fq_ask | exact fq_ask | exact FrQ.r _ | exact (fq_6.t fq_8) | exact fq_8)⟩
    · skip
      refine wp_aload_n k257_0 rfl rfl ?_
      refine wp_iload_n k257_1 rfl rfl ?_
      refine wp_if_eq_F k257_2 c ?_
      refine wp_aload_n k257_5 rfl rfl ?_
      refine wp_iload_n k257_6 rfl rfl ?_
      refine wp_cv (st2 := [_]) k257_7 (e_isPerson hM) (by decide) rfl rfl rfl rfl (by decide) hM.o (by decide) ?_
      refine wp_goto k257_10 ?_
      refine wp_cv (st2 := []) k257_18 (e_passes hM) (by decide) rfl rfl rfl rfl (by decide) hM.o (by decide) ?_
      refine wp_if_ne_F k257_21 (bI_0.mpr (Bool.eq_false_iff.mpr hb)) ?_
      refine wp_iconst 0 k257_24 (by decide) ?_
      exact wp_retI k257_25 rfl ⟨_, _, rfl, rfl, (by first | exact fq_6 | exact fq_6.t fq_ask | exact fq_ask | exact FrQ.r _ | exact (fq_6.t fq_8) | exact fq_8)⟩
end M58
