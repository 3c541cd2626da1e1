section N_d
/-! ===== the class, exactly: a text begun; the next token ===== -/
theorem at_in {g : Nat → Int32} {n i : Nat} (h : i < n) (hn : n ≤ 100000) : atF g n (Int32.ofNat i) = g i := by
  unfold atF
  rw [if_pos ⟨i_nlt (k := i) (n := 0) (Nat.zero_le _) (by omega), i_lt h (by omega)⟩, i_un (by omega)]
def advV (V : hV) (j : Nat) : hV := up (up (up (up V 65 6 (Int32.ofNat j)) 65 7 (V.1 67 j)) 65 8 (V.1 68 j)) 65 9 (V.1 69 j)
theorem advV_ne {V : hV} {j a : Nat} (h : a ≠ 65) : (advV V j).1 a = V.1 a := (funext fun k => up_ne _ _ (Or.inl h)).trans ((funext fun k => up_ne _ _ (Or.inl h)).trans ((funext fun k => up_ne _ _ (Or.inl h)).trans (funext fun k => up_ne _ _ (Or.inl h))))
theorem advV_k {V : hV} {j k : Nat} (h : k < 6 ∨ 9 < k) : (advV V j).1 65 k = V.1 65 k := (up_ne _ _ (Or.inr (by omega))).trans ((up_ne _ _ (Or.inr (by omega))).trans ((up_ne _ _ (Or.inr (by omega))).trans (up_ne _ _ (Or.inr (by omega)))))
theorem advV_6 {V : hV} {j : Nat} : (advV V j).1 65 6 = Int32.ofNat j := (up_ne _ _ (Or.inr (by decide))).trans ((up_ne _ _ (Or.inr (by decide))).trans ((up_ne _ _ (Or.inr (by decide))).trans (up_eq _ _ _ _)))
theorem advV_7 {V : hV} {j : Nat} : (advV V j).1 65 7 = V.1 67 j := (up_ne _ _ (Or.inr (by decide))).trans ((up_ne _ _ (Or.inr (by decide))).trans (up_eq _ _ _ _))
theorem advV_8 {V : hV} {j : Nat} : (advV V j).1 65 8 = V.1 68 j := (up_ne _ _ (Or.inr (by decide))).trans (up_eq _ _ _ _)
theorem advV_9 {V : hV} {j : Nat} : (advV V j).1 65 9 = V.1 69 j := up_eq _ _ _ _
theorem s_adv0 {S : ww_S} {sh : List mm_C} {V : hV} {n i j : Nat} (hS : kSrc sh) (hn : V.1 65 5 = Int32.ofNat (n + 1)) (h6 : n ≤ 600) (hi : V.1 65 6 + 1 = Int32.ofNat i) (hi2 : i ≤ n + 1) (hj : j = if i ≤ n then i else n) : EV S 2 74 [.ref 65] (hH sh V) (.inl none) (hH sh (advV V j)) := by
  have hj6 : j < 601 := by
    rw [hj]
    split <;> omega
  have AT : ∀ (U : hV) (q : Nat), kR sh q 601 → EV S 1 156 [.ref q, .int (Int32.ofNat j)] (hH sh U) (.inl (some (.int (U.1 q j)))) (hH sh U) := by
    intro U q hq
    have E := s_at (S := S) (V := U) hq (by decide) (i := Int32.ofNat j)
    rw [at_in hj6 (by decide)] at E
    exact E
  have em : (if Int32.ofNat n < Int32.ofNat i then Int32.ofNat n else Int32.ofNat i) = Int32.ofNat j := by
    rw [hj]
    by_cases c : i ≤ n
    · rw [if_neg (i_nlt c (by omega)), if_pos c]
    · rw [if_pos (i_lt (by omega) (by omega)), if_neg c]
  refine ev_qe P74 rfl ?_
  refine wp_aload_n k74_0 rfl rfl ?_
  refine wp_aload_n k74_1 rfl rfl ?_
  refine wp_getI k74_2 hS.1.h hS.1.o rfl _ rfl ?_
  refine wp_iconst 1 k74_5 (by decide) ?_
  refine wp_iadd k74_6 ?_
  refine wp_cast hi ?_
  refine wp_aload_n k74_7 rfl rfl ?_
  refine wp_getI k74_8 hS.1.h hS.1.o rfl _ hn ?_
  refine wp_iconst 1 k74_11 (by decide) ?_
  refine wp_isub k74_12 ?_
  refine wp_cast (i_pred (by omega)) ?_
  refine wp_min k74_13 rfl ?_
  refine wp_cast em ?_
  refine wp_putI k74_16 hS.1.h hS.1.o rfl rfl rfl ?_
  refine wp_aload_n k74_19 rfl rfl ?_
  refine wp_aload_n k74_20 rfl rfl ?_
  refine wq_getR k74_21 hS.1 rfl ?_
  refine wp_aload_n k74_24 rfl rfl ?_
  refine wp_getI k74_25 hS.1.h hS.1.o rfl (Int32.ofNat j) (up_eq _ _ _ _) ?_
  refine wp_cs (st2 := [_]) k74_28 (AT _ 67 hS.2.2.1.r) (by decide) rfl rfl rfl (by decide) ?_
  refine wp_putI k74_31 hS.1.h hS.1.o rfl rfl rfl ?_
  refine wp_aload_n k74_34 rfl rfl ?_
  refine wp_aload_n k74_35 rfl rfl ?_
  refine wq_getR k74_36 hS.1 rfl ?_
  refine wp_aload_n k74_39 rfl rfl ?_
  refine wp_getI k74_40 hS.1.h hS.1.o rfl (Int32.ofNat j) ((up_ne _ _ (Or.inr (by decide))).trans (up_eq _ _ _ _)) ?_
  refine wp_cs (st2 := [_]) k74_43 (AT _ 68 hS.2.2.2.1.r) (by decide) rfl rfl rfl (by decide) ?_
  refine wp_putI k74_46 hS.1.h hS.1.o rfl rfl rfl ?_
  refine wp_aload_n k74_49 rfl rfl ?_
  refine wp_aload_n k74_50 rfl rfl ?_
  refine wq_getR k74_51 hS.1 rfl ?_
  refine wp_aload_n k74_54 rfl rfl ?_
  refine wp_getI k74_55 hS.1.h hS.1.o rfl (Int32.ofNat j) ((up_ne _ _ (Or.inr (by decide))).trans ((up_ne _ _ (Or.inr (by decide))).trans (up_eq _ _ _ _))) ?_
  refine wp_cs (st2 := [_]) k74_58 (AT _ 69 hS.2.2.2.2.r) (by decide) rfl rfl rfl (by decide) ?_
  refine wp_putI k74_61 hS.1.h hS.1.o rfl rfl rfl ?_
  exact wp_retn k74_64 rfl rfl
/-- reading on: of the cells that were there the source's own alone are written -/
def FrP (V W : hV) : Prop := ∀ b, b ≠ 65 → W.1 b = V.1 b
theorem FrP.t {A B C : hV} (h1 : FrP A B) (h2 : FrP B C) : FrP A C := fun b h => (h2 b h).trans (h1 b h)
theorem tp_end {f : Nat → Int32} {l n i : Nat} (hn : tp f l n = l) (hi : n ≤ i) : tp f l i = l := by
  obtain ⟨k, rfl⟩ := Nat.exists_eq_add_of_le hi
  induction k with
  | zero => exact hn
  | succ k ih =>
    show nxE f l (tp f l (n + k)) = l
    rw [ih (by omega)]
    unfold nxE
    rw [if_neg (Nat.lt_irrefl l)]
theorem s_advance {S : ww_S} {sh : List mm_C} {V : hV} {f : Nat → Int32} {l p : Nat} {e : Int32} (h : SRC sh V f l p e) : ∃ W, EV S 2 74 [.ref 65] (hH sh V) (.inl none) (hH sh W) ∧ SRC sh W f l (nxE f l p) e ∧ FrP V W := by
  obtain ⟨hT, n, i, hn, hi, h5, h6, hl, hp, hc, h7, h8, h9, h10⟩ := h
  have hl6 := hT.2.2.1
  obtain ⟨j, hj⟩ : ∃ j, j = if i + 1 ≤ n then i + 1 else n := ⟨_, rfl⟩
  have E := s_adv0 (S := S) hT.1 h5 (by omega) (i := i + 1) (by rw [h6]; exact i_succ i) (by omega) hj
  have hjn : j ≤ n := by
    rw [hj]
    split <;> omega
  have hpj : tp f l j = nxE f l p := by
    rw [hj]
    split
    · show nxE f l (tp f l i) = _
      rw [hp]
    · obtain rfl : i = n := by omega
      rw [hl]
      have : p = l := hp.symm.trans hl
      rw [this]
      unfold nxE
      rw [if_neg (Nat.lt_irrefl l)]
  obtain ⟨c1, c2, c3⟩ := hc j hjn
  refine ⟨advV V j, E, ⟨⟨hT.1, (advV_k (Or.inl (by decide))).trans hT.2.1, hT.2.2.1, (advV_ne (by decide)).trans hT.2.2.2⟩, n, j, hn, hjn, (advV_k (Or.inl (by decide))).trans h5, advV_6, hl, hpj, fun q hq => ?_, ?_, ?_, ?_, (advV_k (Or.inr (by decide))).trans h10⟩, fun b hb => advV_ne hb⟩
  · obtain ⟨a1, a2, a3⟩ := hc q hq
    exact ⟨(congrFun (advV_ne (by decide)) q).trans a1, (congrFun (advV_ne (by decide)) q).trans a2, (congrFun (advV_ne (by decide)) q).trans a3⟩
  · rw [← hpj]
    exact advV_7.trans c1
  · rw [← hpj]
    exact advV_8.trans c2
  · rw [← hpj]
    exact advV_9.trans c3
theorem s_begin {S : ww_S} {sh : List mm_C} {V : hV} {f : Nat → Int32} {l : Nat} (h : SoT sh V f l) : ∃ W, EV S 8 65 [.ref 65] (hH sh V) (.inl none) (hH sh W) ∧ SRC sh W f l (sk f l 0) 0 ∧ ∀ b, b ≠ 65 → b ≠ 67 → b ≠ 68 → b ≠ 69 → W.1 b = V.1 b := by
  have hS := h.1
  have h6 := h.2.2.1
  have fin : ∀ (i n : Nat) (U : hV), TK sh U f l l n → U.1 65 10 = 0 → (∀ b, b ≠ 65 → b ≠ 67 → b ≠ 68 → b ≠ 69 → U.1 b = V.1 b) → WP S 7 mm_m65 46 [some (.ref 65), some (.int (Int32.ofNat l)), some (.int (Int32.ofNat i))] [] (hH sh U) (fun v g => ∃ W, v = .inl none ∧ g = hH sh W ∧ SRC sh W f l (sk f l 0) 0 ∧ ∀ b, b ≠ 65 → b ≠ 67 → b ≠ 68 → b ≠ 69 → W.1 b = V.1 b) := by
    intro i n U hK h0 hF
    obtain ⟨k1, k2, k3, k4, k5, k6⟩ := hK
    have hl : tp f l n = l := by
      have := sk_lt (f := f) (Nat.le_refl l)
      omega
    obtain ⟨U1, hU1⟩ : ∃ U1, tkV U n 267 (Int32.ofNat l) 0 = U1 := ⟨_, rfl⟩
    have EA := s_addToken (S := S) hS k2 (by omega) (k := 267) (s := Int32.ofNat l) (m := 0)
    rw [hU1] at EA
    have fr1 : FrT U U1 := by rw [← hU1]; exact frt_tk
    have a5 : U1.1 65 5 = Int32.ofNat (n + 1) := by rw [← hU1]; exact (up_eq _ _ _ _).trans (i_succ n)
    have cc : ∀ j, j ≤ n → tkC U1 f l j (tp f l j) := by
      intro j hj
      rw [← hU1]
      by_cases c : j = n
      · subst c
        rw [hl]
        refine tk_c ?_ rfl ?_
        · unfold kdE
          rw [if_neg (Nat.lt_irrefl l)]
        · unfold nmE
          rw [if_neg (Nat.lt_irrefl l)]
      · exact tk_o (k6 j (by omega)) c
    obtain ⟨U2, hU2⟩ : ∃ U2, up U1 65 6 (-1) = U2 := ⟨_, rfl⟩
    have k2e : ∀ k, k ≠ 6 → U2.1 65 k = U1.1 65 k := fun k hk => by rw [← hU2]; exact up_ne _ _ (Or.inr hk)
    have n2e : ∀ b, b ≠ 65 → U2.1 b = U1.1 b := fun b hb => by rw [← hU2]; exact funext fun j => up_ne _ _ (Or.inl hb)
    have EV2 := s_adv0 (S := S) (V := U2) hS ((k2e 5 (by decide)).trans a5) (by omega) (i := 0) (by rw [← hU2, up_eq]; rfl) (by omega) (j := 0) (by rw [if_pos (Nat.zero_le _)])
    obtain ⟨c1, c2, c3⟩ := cc 0 (Nat.zero_le _)
    refine wp_aload_n k65_46 rfl rfl ?_
    refine wp_sipush 267 k65_47 (by decide) ?_
    refine wp_aload_n k65_50 rfl rfl ?_
    refine wp_getI k65_51 hS.1.h hS.1.o rfl _ k1.2.1 ?_
    refine wp_iconst 0 k65_54 (by decide) ?_
    refine wp_cvn (st2 := []) k65_55 EA (by decide) rfl rfl rfl rfl (by decide) hS.1.o (by decide) ?_
    refine wp_aload_n k65_58 rfl rfl ?_
    refine wp_iconst (-1) k65_59 (by decide) ?_
    refine wp_putI k65_60 hS.1.h hS.1.o rfl rfl rfl ?_
    rw [hU2]
    refine wp_aload_n k65_63 rfl rfl ?_
    refine wp_cvn (st2 := []) k65_64 EV2 (by decide) rfl rfl rfl rfl (by decide) hS.1.o (by decide) ?_
    refine wp_retN k65_67 rfl ⟨_, rfl, rfl, ⟨⟨hS, ?_, h6, ?_⟩, n, 0, k3, Nat.zero_le _, ?_, advV_6, hl, rfl, fun q hq => ?_, ?_, ?_, ?_, ?_⟩, fun b b1 b2 b3 b4 => ?_⟩
    · exact (advV_k (Or.inl (by decide))).trans ((k2e 4 (by decide)).trans ((fr1.2 4 (by decide)).trans k1.2.1))
    · exact (advV_ne (by decide)).trans ((n2e 66 (by decide)).trans ((fr1.1 66 (by decide) (by decide) (by decide) (by decide)).trans k1.2.2.2))
    · exact (advV_k (Or.inl (by decide))).trans ((k2e 5 (by decide)).trans a5)
    · obtain ⟨q1, q2, q3⟩ := cc q hq
      exact ⟨(congrFun ((advV_ne (by decide)).trans (n2e 67 (by decide))) q).trans q1, (congrFun ((advV_ne (by decide)).trans (n2e 68 (by decide))) q).trans q2, (congrFun ((advV_ne (by decide)).trans (n2e 69 (by decide))) q).trans q3⟩
    · exact advV_7.trans ((congrFun (n2e 67 (by decide)) 0).trans c1)
    · exact advV_8.trans ((congrFun (n2e 68 (by decide)) 0).trans c2)
    · exact advV_9.trans ((congrFun (n2e 69 (by decide)) 0).trans c3)
    · exact (advV_k (Or.inr (by decide))).trans ((k2e 10 (by decide)).trans ((fr1.2 10 (by decide)).trans h0))
    · exact (advV_ne b1).trans ((n2e b b1).trans ((fr1.1 b b1 b2 b3 b4).trans (hF b b1 b2 b3 b4)))
  have key : ∀ (g a n i : Nat) (U : hV), g + a = l → i ≤ a → TK sh U f l a n → U.1 65 10 = 0 → (∀ b, b ≠ 65 → b ≠ 67 → b ≠ 68 → b ≠ 69 → U.1 b = V.1 b) → WP S 7 mm_m65 19 [some (.ref 65), some (.int (Int32.ofNat a)), some (.int (Int32.ofNat i))] [] (hH sh U) (fun v g => ∃ W, v = .inl none ∧ g = hH sh W ∧ SRC sh W f l (sk f l 0) 0 ∧ ∀ b, b ≠ 65 → b ≠ 67 → b ≠ 68 → b ≠ 69 → W.1 b = V.1 b) := by
    intro g
    induction g using Nat.strongRecOn with
    | ind g ih =>
      intro a n i U hg hi hK h0 hF
      refine wp_iload_n k65_19 rfl rfl ?_
      refine wp_sipush 600 k65_20 (by decide) ?_
      by_cases c6 : i < 600
      · refine wp_if_icmp_ge_F k65_23 (i_lt (k := i) (n := 600) c6 (by decide)) ?_
        refine wp_iload_n k65_26 rfl rfl ?_
        refine wp_aload_n k65_27 rfl rfl ?_
        refine wp_getI k65_28 hS.1.h hS.1.o rfl _ hK.1.2.1 ?_
        by_cases c : a < l
        · obtain ⟨W, a2, n2, E, hK2, hlt, hFr⟩ := s_scan (S := S) hK c
          have ha2 := hK2.2.2.2.1
          refine wp_if_icmp_ge_F k65_31 (i_lt c (by omega)) ?_
          refine wp_aload_n k65_34 rfl rfl ?_
          refine wp_iload_n k65_35 rfl rfl ?_
          refine wp_cv (st2 := []) k65_36 E (by decide) rfl rfl rfl rfl (by decide) hS.1.o (by decide) ?_
          refine wp_istore_n (L1 := [_, _, _]) k65_39 rfl rfl ?_
          refine wp_iinc 1 (L1 := [_, _, _]) k65_40 rfl (by decide) rfl ?_
          refine wp_goto k65_43 ?_
          rw [i_succ]
          exact ih (l - a2) (by omega) a2 n2 (i + 1) W (by omega) (by omega) hK2 ((hFr.2 10 (by decide)).trans h0) (fun b b1 b2 b3 b4 => (hFr.1 b b1 b2 b3 b4).trans (hF b b1 b2 b3 b4))
        · obtain rfl : a = l := by omega
          refine wp_if_icmp_ge_T k65_31 (i_nlt (Nat.le_refl _) (by omega)) ?_
          exact fin i n U hK h0 hF
      · obtain rfl : a = l := by omega
        refine wp_if_icmp_ge_T k65_23 (i_nlt (k := i) (n := 600) (by omega) (by omega)) ?_
        exact fin i n U hK h0 hF
  have E : EVQ S 8 65 [.ref 65] (hH sh V) (fun v g => ∃ W, v = .inl none ∧ g = hH sh W ∧ SRC sh W f l (sk f l 0) 0 ∧ ∀ b, b ≠ 65 → b ≠ 67 → b ≠ 68 → b ≠ 69 → W.1 b = V.1 b) := by
    refine ev_of P65 rfl ?_
    refine wp_aload_n k65_0 rfl rfl ?_
    refine wp_iconst 0 k65_1 (by decide) ?_
    refine wp_putI k65_2 hS.1.h hS.1.o rfl rfl rfl ?_
    refine wp_aload_n k65_5 rfl rfl ?_
    refine wp_iconst (-1) k65_6 (by decide) ?_
    refine wp_putI k65_7 hS.1.h hS.1.o rfl rfl rfl ?_
    refine wp_aload_n k65_10 rfl rfl ?_
    refine wp_iconst 0 k65_11 (by decide) ?_
    refine wp_putI k65_12 hS.1.h hS.1.o rfl rfl rfl ?_
    refine wp_iconst 0 k65_15 (by decide) ?_
    refine wp_istore_n (L1 := [_, _, _]) k65_16 rfl rfl ?_
    refine wp_iconst 0 k65_17 (by decide) ?_
    refine wp_istore_n (L1 := [_, _, _]) k65_18 rfl rfl ?_
    refine key l 0 0 0 _ rfl (Nat.le_refl _) ⟨⟨hS, ?_, h6, ?_⟩, up_eq _ _ _ _, Nat.le_refl _, Nat.zero_le _, rfl, fun j hj => absurd hj (Nat.not_lt_zero j)⟩ ?_ ?_
    · exact (up_ne _ _ (Or.inr (by decide))).trans ((up_ne _ _ (Or.inr (by decide))).trans ((up_ne _ _ (Or.inr (by decide))).trans h.2.1))
    · exact (funext fun j => up_ne _ _ (Or.inl (by decide))).trans ((funext fun j => up_ne _ _ (Or.inl (by decide))).trans ((funext fun j => up_ne _ _ (Or.inl (by decide))).trans h.2.2.2))
    · exact (up_ne _ _ (Or.inr (by decide))).trans ((up_ne _ _ (Or.inr (by decide))).trans (up_eq _ _ _ _))
    · exact fun b b1 _ _ _ => (funext fun j => up_ne _ _ (Or.inl b1)).trans ((funext fun j => up_ne _ _ (Or.inl b1)).trans (funext fun j => up_ne _ _ (Or.inl b1)))
  obtain ⟨v, g, e, W, h1, h2, h3, h4⟩ := E
  subst h1 h2
  exact ⟨W, e, h3, h4⟩
end N_d
