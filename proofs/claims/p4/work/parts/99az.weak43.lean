section M43
/-! ===== the class: rows, sets, words (that they end, what they leave as it is) ===== -/
section WW3
variable {S : ww_S} {D : Nat} {M : mm_M} {pc p9 nx : Nat} {L : mm_L} {st : List Value} {h : mm_H} {Q : mm_V → mm_H → Prop} {ax : List Nat} {sh : List mm_C} {V : hV}
theorem in_of {i : Int32} {n : Nat} (h0 : ¬ i < 0) (h1 : i < Int32.ofNat n) (hn : n ≤ 100000) : mm_in i n = true := by
  have e0 : ¬ i.toInt < 0 := fun q => h0 (Int32.lt_iff_toInt_lt.mpr q)
  have e1 := Int32.lt_iff_toInt_lt.mp h1
  rw [Int32.toInt_ofNat_of_lt (by omega)] at e1
  have e2 : i = Int32.ofNat i.toInt.toNat := by
    refine Int32.toInt.inj ?_
    rw [Int32.toInt_ofNat_of_lt (by omega)]
    omega
  rw [e2]
  exact i_inO (by omega) (by omega)
theorem nat_of {i : Int32} {n : Nat} (h0 : ¬ i < 0) (h1 : i < Int32.ofNat n) (hn : n ≤ 100000) : ∃ k : Nat, k < n ∧ i = Int32.ofNat k := by
  have e0 : ¬ i.toInt < 0 := fun q => h0 (Int32.lt_iff_toInt_lt.mpr q)
  have e1 := Int32.lt_iff_toInt_lt.mp h1
  rw [Int32.toInt_ofNat_of_lt (by omega)] at e1
  refine ⟨i.toInt.toNat, by omega, Int32.toInt.inj ?_⟩
  rw [Int32.toInt_ofNat_of_lt (by omega)]
  omega
theorem nn_s {x y : Int32} (h0 : ¬ x < 0) (h1 : x < y) : ¬ x + 1 < 0 := by
  have e0 : ¬ x.toInt < 0 := fun q => h0 (Int32.lt_iff_toInt_lt.mpr q)
  have e1 := Int32.lt_iff_toInt_lt.mp h1
  have h2 := y.toInt_lt
  have e : (x + 1).toInt = x.toInt + 1 := by
    rw [Int32.toInt_add]
    show (x.toInt + 1).bmod (2 ^ 32) = _
    rw [Int.bmod_eq_of_le (by omega) (by omega)]
  intro q
  have q := Int32.lt_iff_toInt_lt.mp q
  rw [e] at q
  have : (0 : Int32).toInt = 0 := rfl
  omega
theorem wq_iastore {a n : Nat} {i x : Int32} (hk : mm_lk M.1 pc = some (p9, .iastore, nx, ax)) (hs : kA sh a n) (hi : mm_in i n = true) (w : ∀ W : hV, FR sh V W → WP S D M nx L st (hH sh W) Q) : WP S D M pc L (.int x :: .int i :: .ref a :: st) (hH sh V) Q := wp_iastore hk hs.h hs.o hi _ rfl (w _ (fr_A hs))
theorem wp_retS (hk : mm_lk M.1 pc = some (p9, .areturn, nx, ax)) (hM : M.2.2.1 = 5) {a : Nat} (q : Q (.inl (some (.ref a))) h) : WP S D M pc L [.ref a] h Q := by
  obtain ⟨v, g, ⟨h1, h2⟩, r⟩ := wp_reta (S := S) (D := D) (L := L) (h := h) hk hM (a := a) (h' := h) rfl
  subst h1 h2
  exact ⟨_, _, q, r⟩
theorem wcxI {u kd j n ci a D' : Nat} {r : List Nat} {as st2 : List Value} {fs : List Value} (hk : mm_lk M.1 pc = some (p9, .invokevirtual u, nx, kd :: j :: n :: ci :: r)) (c : EVQ S D' j as (hH sh V) (wI sh V)) (hkd : kd = 0 ∨ kd = 5 ∨ kd = 3) (hb : (Nat.ble n st.length && mm_rst st n) = true) (ha : (st.take n).reverse = as) (hr : st.drop n = st2) (hv : st[n - 1]? = some (.ref a)) (h64 : a < 64) (hs : mm_ext a = some (.inr (.inr (ci, fs)))) (hD : D' ≤ D) (w : ∀ (x : Int32) (W : hV), FR sh V W → WP S D M nx L (.int x :: st2) (hH sh W) Q) : WP S D M pc L st (hH sh V) Q := by
  obtain ⟨v, g, e, x, W, rfl, rfl, f⟩ := c
  exact wp_cvx hk e hkd hb ha hr hv h64 hs hD (w x W f)
theorem w_char {k n N : Nat} (hx : XS k n N) {x : Int32} (h0 : ¬ x < 0) (h1 : x < Int32.ofNat n) : EVQ S 4 363 [.ref k, .int x] (hH sh V) (wI sh V) := by
  obtain ⟨i, hi, rfl⟩ := nat_of h0 h1 (by have := hx.2.2.2; omega)
  exact ⟨_, _, e_char hx hi, _, _, rfl, rfl, FR.r sh V⟩
end WW3
theorem cw156 {S : ww_S} {sh : List mm_C} {V : hV} {p0 n0 : Nat} (h0 : kA sh p0 n0) (b0 : n0 ≤ 100000) {p1 : Int32} : EVQ S 1 156 [.ref p0, .int p1] (hH sh V) (wI sh V) := by
  have f0 := FR.r sh V
  have j17 : ∀ (xs0_17 : Int32) (W17 : hV), FR sh V W17 → WP S 0 mm_m156 17 [some (.ref p0), some (.int p1)] [.int xs0_17] (hH sh W17) (wI sh V) := by
    intro xs0_17 W17 f17
    exact wp_retI k156_17 rfl ⟨_, _, rfl, rfl, f17⟩
  have j16 : ∀  (W16 : hV), FR sh V W16 → WP S 0 mm_m156 16 [some (.ref p0), some (.int p1)] [] (hH sh W16) (wI sh V) := by
    intro W16 f16
    refine wp_iconst 0 k156_16 (by decide) ?_
    exact j17 _ _ f16
  refine ev_of P156 rfl ?_
  refine wp_iload_n k156_0 rfl rfl ?_
  refine wp_if_lt k156_1 (fun c1 => ?_) (fun c1 => ?_)
  · exact j16  _ f0
  · refine wp_iload_n k156_4 rfl rfl ?_
    refine wp_aload_n k156_5 rfl rfl ?_
    refine wp_alen k156_6 rfl h0.h h0.o ?_
    refine wp_if_icmp_ge k156_7 (fun c7 => ?_) (fun c7 => ?_)
    · exact j16  _ f0
    · refine wp_aload_n k156_10 rfl rfl ?_
      refine wp_iload_n k156_11 rfl rfl ?_
      refine wp_iaload k156_12 h0.h h0.o (in_of c1 c7 b0) _ rfl _ rfl ?_
      refine wp_goto k156_13 ?_
      exact j17 _ _ f0
theorem cw156x {S : ww_S} {sh : List mm_C} {V : hV} {p1 : Int32} : EVQ S 1 156 [.ref 1, .int p1] (hH sh V) (wI sh V) := by
  have f0 := FR.r sh V
  have j17 : ∀ (xs0_17 : Int32) (W17 : hV), FR sh V W17 → WP S 0 mm_m156 17 [some (.ref 1), some (.int p1)] [.int xs0_17] (hH sh W17) (wI sh V) := by
    intro xs0_17 W17 f17
    exact wp_retI k156_17 rfl ⟨_, _, rfl, rfl, f17⟩
  have j16 : ∀  (W16 : hV), FR sh V W16 → WP S 0 mm_m156 16 [some (.ref 1), some (.int p1)] [] (hH sh W16) (wI sh V) := by
    intro W16 f16
    refine wp_iconst 0 k156_16 (by decide) ?_
    exact j17 _ _ f16
  refine ev_of P156 rfl ?_
  refine wp_iload_n k156_0 rfl rfl ?_
  refine wp_if_lt k156_1 (fun c1 => ?_) (fun c1 => ?_)
  · exact j16  _ f0
  · refine wp_iload_n k156_4 rfl rfl ?_
    refine wp_aload_n k156_5 rfl rfl ?_
    refine wp_alenx k156_6 rfl rfl rfl rfl ?_
    refine wp_if_icmp_ge k156_7 (fun c7 => ?_) (fun c7 => ?_)
    · exact j16  _ f0
    · refine wp_aload_n k156_10 rfl rfl ?_
      refine wp_iload_n k156_11 rfl rfl ?_
      refine wp_ialoadx k156_12 rfl rfl (in_of c1 c7 (by decide)) _ rfl ?_
      refine wp_goto k156_13 ?_
      exact j17 _ _ f0
theorem cw157 {S : ww_S} {sh : List mm_C} {V : hV} {p0 n0 : Nat} (h0 : kA sh p0 n0) (b0 : n0 ≤ 100000) {p1 : Int32} {p2 : Int32} : EVQ S 1 157 [.ref p0, .int p1, .int p2] (hH sh V) (wN sh V) := by
  have f0 := FR.r sh V
  have j14 : ∀  (W14 : hV), FR sh V W14 → WP S 0 mm_m157 14 [some (.ref p0), some (.int p1), some (.int p2)] [] (hH sh W14) (wN sh V) := by
    intro W14 f14
    exact wp_retN k157_14 rfl ⟨_, rfl, rfl, f14⟩
  refine ev_of P157 rfl ?_
  refine wp_iload_n k157_0 rfl rfl ?_
  refine wp_if_lt k157_1 (fun c1 => ?_) (fun c1 => ?_)
  · exact j14  _ f0
  · refine wp_iload_n k157_4 rfl rfl ?_
    refine wp_aload_n k157_5 rfl rfl ?_
    refine wp_alen k157_6 rfl h0.h h0.o ?_
    refine wp_if_icmp_ge k157_7 (fun c7 => ?_) (fun c7 => ?_)
    · exact j14  _ f0
    · refine wp_aload_n k157_10 rfl rfl ?_
      refine wp_iload_n k157_11 rfl rfl ?_
      refine wp_iload_n k157_12 rfl rfl ?_
      refine wq_iastore k157_13 h0 (in_of c1 c7 b0) (fun W13 g13 => ?_)
      have f13 := FR.t f0 g13
      exact j14  _ f13
theorem cw159 {S : ww_S} {sh : List mm_C} {V : hV} {p0 : Int32} {p1 : Int32} : EVQ S 1 159 [.int p0, .int p1] (hH sh V) (wZ sh V) := by
  have f0 := FR.r sh V
  have j24 : ∀ (bs0_24 : Bool) (W24 : hV), FR sh V W24 → WP S 0 mm_m159 24 [some (.int p0), some (.int p1)] [.int (bI bs0_24)] (hH sh W24) (wZ sh V) := by
    intro bs0_24 W24 f24
    exact wp_retZ (b := bs0_24) k159_24 rfl ⟨bs0_24, _, rfl, rfl, f24⟩
  have j23 : ∀  (W23 : hV), FR sh V W23 → WP S 0 mm_m159 23 [some (.int p0), some (.int p1)] [] (hH sh W23) (wZ sh V) := by
    intro W23 f23
    refine wp_iconst 0 k159_23 (by decide) ?_
    exact j24 false _ f23
  refine ev_of P159 rfl ?_
  refine wp_iload_n k159_0 rfl rfl ?_
  refine wp_if_lt k159_1 (fun c1 => ?_) (fun c1 => ?_)
  · exact j23  _ f0
  · refine wp_iload_n k159_4 rfl rfl ?_
    refine wp_bipush 32 k159_5 (by decide) ?_
    refine wp_if_icmp_ge k159_7 (fun c7 => ?_) (fun c7 => ?_)
    · exact j23  _ f0
    · refine wp_iload_n k159_10 rfl rfl ?_
      refine wp_iload_n k159_11 rfl rfl ?_
      refine wp_iushr k159_12 ?_
      refine wp_iconst 1 k159_13 (by decide) ?_
      refine wp_iand k159_14 ?_
      refine wp_iconst 1 k159_15 (by decide) ?_
      refine wp_if_icmp_ne k159_16 (fun c16 => ?_) (fun c16 => ?_)
      · exact j23  _ f0
      · refine wp_iconst 1 k159_19 (by decide) ?_
        refine wp_goto k159_20 ?_
        exact j24 true _ f0
theorem cw161 {S : ww_S} {sh : List mm_C} {V : hV} {p0 : Int32} : EVQ S 1 161 [.int p0] (hH sh V) (wI sh V) := by
  have f0 := FR.r sh V
  have j15 : ∀ (xs0_15 : Int32) (W15 : hV), FR sh V W15 → WP S 0 mm_m161 15 [some (.int p0)] [.int xs0_15] (hH sh W15) (wI sh V) := by
    intro xs0_15 W15 f15
    exact wp_retI k161_15 rfl ⟨_, _, rfl, rfl, f15⟩
  refine ev_of P161 rfl ?_
  refine wp_iload_n k161_0 rfl rfl ?_
  refine wp_bipush 32 k161_1 (by decide) ?_
  refine wp_if_icmp_lt k161_3 (fun c3 => ?_) (fun c3 => ?_)
  · refine wp_iconst 1 k161_10 (by decide) ?_
    refine wp_iload_n k161_11 rfl rfl ?_
    refine wp_ishl k161_12 ?_
    refine wp_iconst 1 k161_13 (by decide) ?_
    refine wp_isub k161_14 ?_
    exact j15 _ _ f0
  · refine wp_iconst (-1) k161_6 (by decide) ?_
    refine wp_goto k161_7 ?_
    exact j15 _ _ f0
theorem cw164 {S : ww_S} {sh : List mm_C} {V : hV} {p0 : Int32} : EVQ S 1 164 [.int p0] (hH sh V) (wZ sh V) := by
  have f0 := FR.r sh V
  have j15 : ∀ (bs0_15 : Bool) (W15 : hV), FR sh V W15 → WP S 0 mm_m164 15 [some (.int p0)] [.int (bI bs0_15)] (hH sh W15) (wZ sh V) := by
    intro bs0_15 W15 f15
    exact wp_retZ (b := bs0_15) k164_15 rfl ⟨bs0_15, _, rfl, rfl, f15⟩
  have j14 : ∀  (W14 : hV), FR sh V W14 → WP S 0 mm_m164 14 [some (.int p0)] [] (hH sh W14) (wZ sh V) := by
    intro W14 f14
    refine wp_iconst 0 k164_14 (by decide) ?_
    exact j15 false _ f14
  refine ev_of P164 rfl ?_
  refine wp_iload_n k164_0 rfl rfl ?_
  refine wp_iconst 1 k164_1 (by decide) ?_
  refine wp_if_icmp_lt k164_2 (fun c2 => ?_) (fun c2 => ?_)
  · exact j14  _ f0
  · refine wp_iload_n k164_5 rfl rfl ?_
    refine wp_iconst 5 k164_6 (by decide) ?_
    refine wp_if_icmp_gt k164_7 (fun c7 => ?_) (fun c7 => ?_)
    · exact j14  _ f0
    · refine wp_iconst 1 k164_10 (by decide) ?_
      refine wp_goto k164_11 ?_
      exact j15 true _ f0
theorem cw165 {S : ww_S} {sh : List mm_C} {V : hV} {p0 : Int32} : EVQ S 1 165 [.int p0] (hH sh V) (wZ sh V) := by
  have f0 := FR.r sh V
  have j17 : ∀ (bs0_17 : Bool) (W17 : hV), FR sh V W17 → WP S 0 mm_m165 17 [some (.int p0)] [.int (bI bs0_17)] (hH sh W17) (wZ sh V) := by
    intro bs0_17 W17 f17
    exact wp_retZ (b := bs0_17) k165_17 rfl ⟨bs0_17, _, rfl, rfl, f17⟩
  have j12 : ∀  (W12 : hV), FR sh V W12 → WP S 0 mm_m165 12 [some (.int p0)] [] (hH sh W12) (wZ sh V) := by
    intro W12 f12
    refine wp_iconst 1 k165_12 (by decide) ?_
    refine wp_goto k165_13 ?_
    exact j17 true _ f12
  refine ev_of P165 rfl ?_
  refine wp_iload_n k165_0 rfl rfl ?_
  refine wp_bipush 6 k165_1 (by decide) ?_
  refine wp_if_icmp_eq k165_3 (fun c3 => ?_) (fun c3 => ?_)
  · exact j12  _ f0
  · refine wp_iload_n k165_6 rfl rfl ?_
    refine wp_bipush 7 k165_7 (by decide) ?_
    refine wp_if_icmp_ne k165_9 (fun c9 => ?_) (fun c9 => ?_)
    · refine wp_iconst 0 k165_16 (by decide) ?_
      exact j17 false _ f0
    · exact j12  _ f0
theorem cw166 {S : ww_S} {sh : List mm_C} {V : hV} {p0 : Int32} : EVQ S 1 166 [.int p0] (hH sh V) (wZ sh V) := by
  have f0 := FR.r sh V
  have j15 : ∀ (bs0_15 : Bool) (W15 : hV), FR sh V W15 → WP S 0 mm_m166 15 [some (.int p0)] [.int (bI bs0_15)] (hH sh W15) (wZ sh V) := by
    intro bs0_15 W15 f15
    exact wp_retZ (b := bs0_15) k166_15 rfl ⟨bs0_15, _, rfl, rfl, f15⟩
  have j10 : ∀  (W10 : hV), FR sh V W10 → WP S 0 mm_m166 10 [some (.int p0)] [] (hH sh W10) (wZ sh V) := by
    intro W10 f10
    refine wp_iconst 1 k166_10 (by decide) ?_
    refine wp_goto k166_11 ?_
    exact j15 true _ f10
  refine ev_of P166 rfl ?_
  refine wp_iload_n k166_0 rfl rfl ?_
  refine wp_iconst 2 k166_1 (by decide) ?_
  refine wp_if_icmp_eq k166_2 (fun c2 => ?_) (fun c2 => ?_)
  · exact j10  _ f0
  · refine wp_iload_n k166_5 rfl rfl ?_
    refine wp_iconst 3 k166_6 (by decide) ?_
    refine wp_if_icmp_ne k166_7 (fun c7 => ?_) (fun c7 => ?_)
    · refine wp_iconst 0 k166_14 (by decide) ?_
      exact j15 false _ f0
    · exact j10  _ f0
theorem cw160 {S : ww_S} {sh : List mm_C} {V : hV} {p0 : Int32} : EVQ S 1 160 [.int p0] (hH sh V) (wI sh V) := by
  have f0 := FR.r sh V
  have j17 : ∀ (xs0_17 : Int32) (W17 : hV), FR sh V W17 → WP S 0 mm_m160 17 [some (.int p0)] [.int xs0_17] (hH sh W17) (wI sh V) := by
    intro xs0_17 W17 f17
    exact wp_retI k160_17 rfl ⟨_, _, rfl, rfl, f17⟩
  have j16 : ∀  (W16 : hV), FR sh V W16 → WP S 0 mm_m160 16 [some (.int p0)] [] (hH sh W16) (wI sh V) := by
    intro W16 f16
    refine wp_iconst 0 k160_16 (by decide) ?_
    exact j17 _ _ f16
  refine ev_of P160 rfl ?_
  refine wp_iload_n k160_0 rfl rfl ?_
  refine wp_if_lt k160_1 (fun c1 => ?_) (fun c1 => ?_)
  · exact j16  _ f0
  · refine wp_iload_n k160_4 rfl rfl ?_
    refine wp_bipush 32 k160_5 (by decide) ?_
    refine wp_if_icmp_ge k160_7 (fun c7 => ?_) (fun c7 => ?_)
    · exact j16  _ f0
    · refine wp_iconst 1 k160_10 (by decide) ?_
      refine wp_iload_n k160_11 rfl rfl ?_
      refine wp_ishl k160_12 ?_
      refine wp_goto k160_13 ?_
      exact j17 _ _ f0
theorem cw72 {S : ww_S} {sh : List mm_C} {V : hV} (h0 : kSrc sh) {p1 : Int32} : EVQ S 1 72 [.ref 65, .int p1] (hH sh V) (wI sh V) := by
  have f0 := FR.r sh V
  have j31 : ∀ (xs0_31 : Int32) (W31 : hV), FR sh V W31 → WP S 0 mm_m72 31 [some (.ref 65), some (.int p1)] [.int xs0_31] (hH sh W31) (wI sh V) := by
    intro xs0_31 W31 f31
    exact wp_retI k72_31 rfl ⟨_, _, rfl, rfl, f31⟩
  have j30 : ∀  (W30 : hV), FR sh V W30 → WP S 0 mm_m72 30 [some (.ref 65), some (.int p1)] [] (hH sh W30) (wI sh V) := by
    intro W30 f30
    refine wp_iconst (-1) k72_30 (by decide) ?_
    exact j31 _ _ f30
  refine ev_of P72 rfl ?_
  refine wp_iload_n k72_0 rfl rfl ?_
  refine wp_if_lt k72_1 (fun c1 => ?_) (fun c1 => ?_)
  · exact j30  _ f0
  · refine wp_iload_n k72_4 rfl rfl ?_
    refine wp_aload_n k72_5 rfl rfl ?_
    refine wq_getI k72_6 h0.1 rfl ?_
    refine wp_if_icmp_ge k72_9 (fun c9 => ?_) (fun c9 => ?_)
    · exact j30  _ f0
    · refine wp_iload_n k72_12 rfl rfl ?_
      refine wp_aload_n k72_13 rfl rfl ?_
      refine wq_getR k72_14 h0.1 rfl ?_
      refine wp_alen k72_17 rfl (by decide) h0.2.1.o ?_
      refine wp_if_icmp_ge k72_18 (fun c18 => ?_) (fun c18 => ?_)
      · exact j30  _ f0
      · refine wp_aload_n k72_21 rfl rfl ?_
        refine wq_getR k72_22 h0.1 rfl ?_
        refine wp_iload_n k72_25 rfl rfl ?_
        refine wp_iaload k72_26 (by decide) h0.2.1.o (in_of c1 c18 (by decide)) _ rfl _ rfl ?_
        refine wp_goto k72_27 ?_
        exact j31 _ _ f0
theorem cw71 {S : ww_S} {sh : List mm_C} {V : hV} (h0 : kSrc sh) {p1 : Int32} : EVQ S 2 71 [.ref 65, .int p1] (hH sh V) (wZ sh V) := by
  have f0 := FR.r sh V
  have j25 : ∀ (bs0_25 : Bool) (W25 : hV), FR sh V W25 → WP S 1 mm_m71 25 [some (.ref 65), some (.int p1)] [.int (bI bs0_25)] (hH sh W25) (wZ sh V) := by
    intro bs0_25 W25 f25
    exact wp_retZ (b := bs0_25) k71_25 rfl ⟨bs0_25, _, rfl, rfl, f25⟩
  have j24 : ∀  (W24 : hV), FR sh V W24 → WP S 1 mm_m71 24 [some (.ref 65), some (.int p1)] [] (hH sh W24) (wZ sh V) := by
    intro W24 f24
    refine wp_iconst 0 k71_24 (by decide) ?_
    exact j25 false _ f24
  refine ev_of P71 rfl ?_
  refine wp_aload_n k71_0 rfl rfl ?_
  refine wp_iload_n k71_1 rfl rfl ?_
  refine wcvI (st2 := []) k71_2 (cw72 (S := S) h0) (by decide) rfl rfl rfl rfl (by decide) h0.1.o (by decide) (fun x2 W2 g2 => ?_)
  have f2 := FR.t f0 g2
  refine wp_bipush 97 k71_5 (by decide) ?_
  refine wp_if_icmp_lt k71_7 (fun c7 => ?_) (fun c7 => ?_)
  · exact j24  _ f2
  · refine wp_aload_n k71_10 rfl rfl ?_
    refine wp_iload_n k71_11 rfl rfl ?_
    refine wcvI (st2 := []) k71_12 (cw72 (S := S) h0) (by decide) rfl rfl rfl rfl (by decide) h0.1.o (by decide) (fun x12 W12 g12 => ?_)
    have f12 := FR.t f2 g12
    refine wp_bipush 122 k71_15 (by decide) ?_
    refine wp_if_icmp_gt k71_17 (fun c17 => ?_) (fun c17 => ?_)
    · exact j24  _ f12
    · refine wp_iconst 1 k71_20 (by decide) ?_
      refine wp_goto k71_21 ?_
      exact j25 true _ f12
theorem cw70 {S : ww_S} {sh : List mm_C} {V : hV} (h0 : kSrc sh) {p1 : Int32} {p2 n2 N2 : Nat} (h2 : XS p2 n2 N2) : EVQ S 5 70 [.ref 65, .int p1, .ref p2] (hH sh V) (wZ sh V) := by
  have f0 := FR.r sh V
  have j51 : ∀ (x3_51 : Int32) (bs0_51 : Bool) (W51 : hV), FR sh V W51 → WP S 4 mm_m70 51 [some (.ref 65), some (.int p1), some (.ref p2), some (.int x3_51)] [.int (bI bs0_51)] (hH sh W51) (wZ sh V) := by
    intro x3_51 bs0_51 W51 f51
    exact wp_retZ (b := bs0_51) k70_51 rfl ⟨bs0_51, _, rfl, rfl, f51⟩
  have j2 : ∀ (m2 : Nat) (x3_2 : Int32) (W2 : hV), (mea x3_2 < m2 ∧ ¬ x3_2 < 0) → FR sh V W2 → WP S 4 mm_m70 2 [some (.ref 65), some (.int p1), some (.ref p2), some (.int x3_2)] [] (hH sh W2) (wZ sh V) := by
    intro m2
    induction m2 with
    | zero =>
      intro x3_2 W2 hm2 f2
      exact absurd hm2.1 (Nat.not_lt_zero _)
    | succ m2 ih2 =>
      intro x3_2 W2 hm2 f2
      refine wp_iload_n k70_2 rfl rfl ?_
      refine wp_aload_n k70_3 rfl rfl ?_
      refine wp_cvx (st2 := [_]) k70_4 (e_slen (S := S) h2) (by decide) rfl rfl rfl rfl h2.lt h2.2.1 (by decide) ?_
      refine wp_if_icmp_ge k70_7 (fun c7 => ?_) (fun c7 => ?_)
      · refine wp_aload_n k70_33 rfl rfl ?_
        refine wp_iload_n k70_34 rfl rfl ?_
        refine wp_aload_n k70_35 rfl rfl ?_
        refine wp_cvx (st2 := [_, _]) k70_36 (e_slen (S := S) h2) (by decide) rfl rfl rfl rfl h2.lt h2.2.1 (by decide) ?_
        refine wp_iadd k70_39 ?_
        refine wcvZ (st2 := []) k70_40 (cw71 (S := S) h0) (by decide) rfl rfl rfl rfl (by decide) h0.1.o (by decide) (fun b40 W40 g40 => ?_)
        have f40 := FR.t f2 g40
        refine wp_if_ne k70_43 (fun c43 => ?_) (fun c43 => ?_)
        · refine wp_iconst 0 k70_50 (by decide) ?_
          exact j51 _ false _ f40
        · refine wp_iconst 1 k70_46 (by decide) ?_
          refine wp_goto k70_47 ?_
          exact j51 _ true _ f40
      · have hd2 : (mea (x3_2 + 1) < m2 ∧ ¬ (x3_2 + 1) < 0) := ⟨Nat.lt_of_lt_of_le (mea_s c7) (Nat.le_of_lt_succ hm2.1), nn_s hm2.2 c7⟩
        refine wp_aload_n k70_10 rfl rfl ?_
        refine wp_iload_n k70_11 rfl rfl ?_
        refine wp_iload_n k70_12 rfl rfl ?_
        refine wp_iadd k70_13 ?_
        refine wcvI (st2 := []) k70_14 (cw72 (S := S) h0) (by decide) rfl rfl rfl rfl (by decide) h0.1.o (by decide) (fun x14 W14 g14 => ?_)
        have f14 := FR.t f2 g14
        refine wp_aload_n k70_17 rfl rfl ?_
        refine wp_iload_n k70_18 rfl rfl ?_
        refine wcxI (st2 := [_]) k70_19 (w_char (S := S) h2 hm2.2 c7) (by decide) rfl rfl rfl rfl h2.lt h2.2.1 (by decide) (fun x19 W19 g19 => ?_)
        have f19 := FR.t f14 g19
        refine wp_if_icmp_eq k70_22 (fun c22 => ?_) (fun c22 => ?_)
        · refine wp_iinc (L1 := [_, _, _, _]) 1 k70_27 rfl (by decide) rfl ?_
          refine wp_goto k70_30 ?_
          exact ih2 _ _ hd2 f19
        · refine wp_iconst 0 k70_25 (by decide) ?_
          exact wp_retZ (b := false) k70_26 rfl ⟨false, _, rfl, rfl, f19⟩
  refine ev_of P70 rfl ?_
  refine wp_iconst 0 k70_0 (by decide) ?_
  refine wp_istore_n (L1 := [_, _, _, _]) k70_1 rfl rfl ?_
  exact j2 _ _ _ ⟨Nat.lt_succ_self _, (by decide)⟩ f0
theorem cw51 {S : ww_S} {sh : List mm_C} {V : hV} {p0 : Nat} (h0 : kNames sh p0) {p1 : Int32} : EVQ S 1 51 [.ref p0, .int p1] (hH sh V) (wI sh V) := by
  have f0 := FR.r sh V
  have j37 : ∀ (x2_37 : Int32) (W37 : hV), FR sh V W37 → WP S 0 mm_m51 37 [some (.ref p0), some (.int p1), some (.int x2_37)] [] (hH sh W37) (wI sh V) := by
    intro x2_37 W37 f37
    refine wp_iconst (-1) k51_37 (by decide) ?_
    exact wp_retI k51_38 rfl ⟨_, _, rfl, rfl, f37⟩
  have j2 : ∀ (m2 : Nat) (x2_2 : Int32) (W2 : hV), (mea x2_2 < m2 ∧ ¬ x2_2 < 0) → FR sh V W2 → WP S 0 mm_m51 2 [some (.ref p0), some (.int p1), some (.int x2_2)] [] (hH sh W2) (wI sh V) := by
    intro m2
    induction m2 with
    | zero =>
      intro x2_2 W2 hm2 f2
      exact absurd hm2.1 (Nat.not_lt_zero _)
    | succ m2 ih2 =>
      intro x2_2 W2 hm2 f2
      refine wp_iload_n k51_2 rfl rfl ?_
      refine wp_aload_n k51_3 rfl rfl ?_
      refine wq_getI k51_4 h0.1 rfl ?_
      refine wp_if_icmp_ge k51_7 (fun c7 => ?_) (fun c7 => ?_)
      · exact j37 _ _ f2
      · have hd2 : (mea (x2_2 + 1) < m2 ∧ ¬ (x2_2 + 1) < 0) := ⟨Nat.lt_of_lt_of_le (mea_s c7) (Nat.le_of_lt_succ hm2.1), nn_s hm2.2 c7⟩
        refine wp_iload_n k51_10 rfl rfl ?_
        refine wp_aload_n k51_11 rfl rfl ?_
        refine wq_getR k51_12 h0.1 rfl ?_
        refine wp_alen k51_15 rfl h0.2.h h0.2.o ?_
        refine wp_if_icmp_ge k51_16 (fun c16 => ?_) (fun c16 => ?_)
        · exact j37 _ _ f2
        · refine wp_aload_n k51_19 rfl rfl ?_
          refine wq_getR k51_20 h0.1 rfl ?_
          refine wp_iload_n k51_23 rfl rfl ?_
          refine wp_iaload k51_24 h0.2.h h0.2.o (in_of hm2.2 c16 (by decide)) _ rfl _ rfl ?_
          refine wp_iload_n k51_25 rfl rfl ?_
          refine wp_if_icmp_ne k51_26 (fun c26 => ?_) (fun c26 => ?_)
          · refine wp_iinc (L1 := [_, _, _]) 1 k51_31 rfl (by decide) rfl ?_
            refine wp_goto k51_34 ?_
            exact ih2 _ _ hd2 f2
          · refine wp_iload_n k51_29 rfl rfl ?_
            exact wp_retI k51_30 rfl ⟨_, _, rfl, rfl, f2⟩
  refine ev_of P51 rfl ?_
  refine wp_iconst 0 k51_0 (by decide) ?_
  refine wp_istore_n (L1 := [_, _, _]) k51_1 rfl rfl ?_
  exact j2 _ _ _ ⟨Nat.lt_succ_self _, (by decide)⟩ f0
theorem cw29 {S : ww_S} {sh : List mm_C} {V : hV} {p0 : Nat} (h0 : kKnow sh p0) {p1 : Int32} {p2 : Int32} : EVQ S 1 29 [.ref p0, .int p1, .int p2] (hH sh V) (wI sh V) := by
  have f0 := FR.r sh V
  have j59 : ∀ (x3_59 : Int32) (xs0_59 : Int32) (W59 : hV), FR sh V W59 → WP S 0 mm_m29 59 [some (.ref p0), some (.int p1), some (.int p2), some (.int x3_59)] [.int xs0_59] (hH sh W59) (wI sh V) := by
    intro x3_59 xs0_59 W59 f59
    exact wp_retI k29_59 rfl ⟨_, _, rfl, rfl, f59⟩
  have j30 : ∀ (x3_30 : Int32) (W30 : hV), FR sh V W30 → WP S 0 mm_m29 30 [some (.ref p0), some (.int p1), some (.int p2), some (.int x3_30)] [] (hH sh W30) (wI sh V) := by
    intro x3_30 W30 f30
    refine wp_iconst 0 k29_30 (by decide) ?_
    exact wp_retI k29_31 rfl ⟨_, _, rfl, rfl, f30⟩
  refine ev_of P29 rfl ?_
  refine wp_iload_n k29_0 rfl rfl ?_
  refine wp_bipush 32 k29_1 (by decide) ?_
  refine wp_imul k29_3 ?_
  refine wp_iload_n k29_4 rfl rfl ?_
  refine wp_iadd k29_5 ?_
  refine wp_istore_n (L1 := [_, _, _, _]) k29_6 rfl rfl ?_
  refine wp_iload_n k29_7 rfl rfl ?_
  refine wp_if_lt k29_8 (fun c8 => ?_) (fun c8 => ?_)
  · exact j30 _ _ f0
  · refine wp_iload_n k29_11 rfl rfl ?_
    refine wp_bipush 32 k29_12 (by decide) ?_
    refine wp_if_icmp_ge k29_14 (fun c14 => ?_) (fun c14 => ?_)
    · exact j30 _ _ f0
    · refine wp_iload_n k29_17 rfl rfl ?_
      refine wp_if_lt k29_18 (fun c18 => ?_) (fun c18 => ?_)
      · exact j30 _ _ f0
      · refine wp_iload_n k29_21 rfl rfl ?_
        refine wp_aload_n k29_22 rfl rfl ?_
        refine wq_getR k29_23 h0.1 rfl ?_
        refine wp_alen k29_26 rfl h0.2.h h0.2.o ?_
        refine wp_if_icmp_lt k29_27 (fun c27 => ?_) (fun c27 => ?_)
        · refine wp_aload_n k29_32 rfl rfl ?_
          refine wq_getI k29_33 h0.1 rfl ?_
          refine wp_iload_n k29_36 rfl rfl ?_
          refine wp_iushr k29_37 ?_
          refine wp_iconst 1 k29_38 (by decide) ?_
          refine wp_iand k29_39 ?_
          refine wp_iconst 1 k29_40 (by decide) ?_
          refine wp_if_icmp_ne k29_41 (fun c41 => ?_) (fun c41 => ?_)
          · refine wp_iconst 0 k29_58 (by decide) ?_
            exact j59 _ _ _ f0
          · refine wp_aload_n k29_44 rfl rfl ?_
            refine wq_getR k29_45 h0.1 rfl ?_
            refine wp_iload_n k29_48 rfl rfl ?_
            refine wp_iaload k29_49 h0.2.h h0.2.o (in_of c18 c27 (by decide)) _ rfl _ rfl ?_
            refine wp_aload_n k29_50 rfl rfl ?_
            refine wq_getI k29_51 h0.1 rfl ?_
            refine wp_iand k29_54 ?_
            refine wp_goto k29_55 ?_
            exact j59 _ _ _ f0
        · exact j30 _ _ f0
theorem cw163 {S : ww_S} {sh : List mm_C} {V : hV} {p0 : Int32} {p1 : Int32} : EVQ S 1 163 [.int p0, .int p1] (hH sh V) (wI sh V) := by
  have f0 := FR.r sh V
  have j4 : ∀ (m4 : Nat) (x2_4 : Int32) (x3_4 : Int32) (W4 : hV), (mea x3_4 < m4 ∧ ¬ x3_4 < 0) → FR sh V W4 → WP S 0 mm_m163 4 [some (.int p0), some (.int p1), some (.int x2_4), some (.int x3_4)] [] (hH sh W4) (wI sh V) := by
    intro m4
    induction m4 with
    | zero =>
      intro x2_4 x3_4 W4 hm4 f4
      exact absurd hm4.1 (Nat.not_lt_zero _)
    | succ m4 ih4 =>
      intro x2_4 x3_4 W4 hm4 f4
      have j48 : ∀ (x2_48 : Int32) (W48 : hV), (mea (x3_4 + 1) < m4 ∧ ¬ (x3_4 + 1) < 0) → FR sh V W48 → WP S 0 mm_m163 48 [some (.int p0), some (.int p1), some (.int x2_48), some (.int x3_4)] [] (hH sh W48) (wI sh V) := by
        intro x2_48 W48 hd4 f48
        refine wp_iinc (L1 := [_, _, _, _]) 1 k163_48 rfl (by decide) rfl ?_
        refine wp_goto k163_51 ?_
        exact ih4 _ _ _ hd4 f48
      have j46 : ∀ (xs0_46 : Int32) (W46 : hV), (mea (x3_4 + 1) < m4 ∧ ¬ (x3_4 + 1) < 0) → FR sh V W46 → WP S 0 mm_m163 46 [some (.int p0), some (.int p1), some (.int x2_4), some (.int x3_4)] [.int xs0_46, .int x2_4] (hH sh W46) (wI sh V) := by
        intro xs0_46 W46 hd4 f46
        refine wp_iand k163_46 ?_
        refine wp_istore_n (L1 := [_, _, _, _]) k163_47 rfl rfl ?_
        exact j48 _ _ hd4 f46
      refine wp_iload_n k163_4 rfl rfl ?_
      refine wp_getstatic k163_5 rfl ?_
      refine wp_alenx k163_8 rfl rfl rfl rfl ?_
      refine wp_if_icmp_ge k163_9 (fun c9 => ?_) (fun c9 => ?_)
      · refine wp_iload_n k163_54 rfl rfl ?_
        exact wp_retI k163_55 rfl ⟨_, _, rfl, rfl, f4⟩
      · have hd4 : (mea (x3_4 + 1) < m4 ∧ ¬ (x3_4 + 1) < 0) := ⟨Nat.lt_of_lt_of_le (mea_s c9) (Nat.le_of_lt_succ hm4.1), nn_s hm4.2 c9⟩
        refine wp_iload_n k163_12 rfl rfl ?_
        refine wp_iload_n k163_13 rfl rfl ?_
        refine wp_iushr k163_14 ?_
        refine wp_iconst 1 k163_15 (by decide) ?_
        refine wp_iand k163_16 ?_
        refine wp_iconst 1 k163_17 (by decide) ?_
        refine wp_if_icmp_ne k163_18 (fun c18 => ?_) (fun c18 => ?_)
        · exact j48 _ _ hd4 f4
        · refine wp_iload_n k163_21 rfl rfl ?_
          refine wp_iload_n k163_22 rfl rfl ?_
          refine wp_iload_n k163_23 rfl rfl ?_
          refine wp_iushr k163_24 ?_
          refine wp_iconst 1 k163_25 (by decide) ?_
          refine wp_iand k163_26 ?_
          refine wp_iconst 1 k163_27 (by decide) ?_
          refine wp_if_icmp_ne k163_28 (fun c28 => ?_) (fun c28 => ?_)
          · refine wp_getstatic k163_39 rfl ?_
            refine wp_iload_n k163_42 rfl rfl ?_
            refine wp_ialoadx k163_43 rfl rfl (in_of hm4.2 c9 (by decide)) _ rfl ?_
            refine wp_iconst (-1) k163_44 (by decide) ?_
            refine wp_ixor k163_45 ?_
            exact j46 _ _ hd4 f4
          · refine wp_getstatic k163_31 rfl ?_
            refine wp_iload_n k163_34 rfl rfl ?_
            refine wp_ialoadx k163_35 rfl rfl (in_of hm4.2 c9 (by decide)) _ rfl ?_
            refine wp_goto k163_36 ?_
            exact j46 _ _ hd4 f4
  refine ev_of P163 rfl ?_
  refine wp_iconst (-1) k163_0 (by decide) ?_
  refine wp_istore_n (L1 := [_, _, _, _]) k163_1 rfl rfl ?_
  refine wp_iconst 0 k163_2 (by decide) ?_
  refine wp_istore_n (L1 := [_, _, _, _]) k163_3 rfl rfl ?_
  exact j4 _ _ _ _ ⟨Nat.lt_succ_self _, (by decide)⟩ f0
theorem cw162 {S : ww_S} {sh : List mm_C} {V : hV} {p0 : Int32} : EVQ S 2 162 [.int p0] (hH sh V) (wI sh V) := by
  have f0 := FR.r sh V
  have j2 : ∀ (m2 : Nat) (x1_2 : Int32) (W2 : hV), mea x1_2 < m2 → FR sh V W2 → WP S 1 mm_m162 2 [some (.int p0), some (.int x1_2)] [] (hH sh W2) (wI sh V) := by
    intro m2
    induction m2 with
    | zero =>
      intro x1_2 W2 hm2 f2
      exact absurd hm2 (Nat.not_lt_zero _)
    | succ m2 ih2 =>
      intro x1_2 W2 hm2 f2
      refine wp_iload_n k162_2 rfl rfl ?_
      refine wp_bipush 32 k162_3 (by decide) ?_
      refine wp_if_icmp_ge k162_5 (fun c5 => ?_) (fun c5 => ?_)
      · refine wp_iconst (-1) k162_24 (by decide) ?_
        exact wp_retI k162_25 rfl ⟨_, _, rfl, rfl, f2⟩
      · have hd2 : mea (x1_2 + 1) < m2 := Nat.lt_of_lt_of_le (mea_s c5) (Nat.le_of_lt_succ hm2)
        refine wp_iload_n k162_8 rfl rfl ?_
        refine wp_iload_n k162_9 rfl rfl ?_
        refine wcsZ (st2 := []) k162_10 (cw159 (S := S)) (by decide) rfl rfl rfl (by decide) (fun b10 W10 g10 => ?_)
        have f10 := FR.t f2 g10
        refine wp_if_eq k162_13 (fun c13 => ?_) (fun c13 => ?_)
        · refine wp_iinc (L1 := [_, _]) 1 k162_18 rfl (by decide) rfl ?_
          refine wp_goto k162_21 ?_
          exact ih2 _ _ hd2 f10
        · refine wp_iload_n k162_16 rfl rfl ?_
          exact wp_retI k162_17 rfl ⟨_, _, rfl, rfl, f10⟩
  refine ev_of P162 rfl ?_
  refine wp_iconst 0 k162_0 (by decide) ?_
  refine wp_istore_n (L1 := [_, _]) k162_1 rfl rfl ?_
  exact j2 _ _ _ (Nat.lt_succ_self _) f0
end M43
