section M40
/-! ===== the reference: questions: that they are answered, and what they leave as it is ===== -/
def FrQ (V W : hV) : Prop := (∀ a, a ≠ 312 → a ≠ 313 → a ≠ 316 → a ≠ 318 → W.1 a = V.1 a) ∧ (∀ k, k < 564 → W.1 313 k = V.1 313 k) ∧ (∀ k, k ≠ 6 → W.1 312 k = V.1 312 k)
theorem FrQ.r (V : hV) : FrQ V V := ⟨fun _ _ _ _ _ => rfl, fun _ _ => rfl, fun _ _ => rfl⟩
theorem FrQ.t {A B C : hV} (h1 : FrQ A B) (h2 : FrQ B C) : FrQ A C := ⟨fun a z1 z2 z3 z4 => (h2.1 a z1 z2 z3 z4).trans (h1.1 a z1 z2 z3 z4), fun k z => (h2.2.1 k z).trans (h1.2.1 k z), fun k z => (h2.2.2 k z).trans (h1.2.2 k z)⟩
theorem fq_6 {V : hV} {x : Int32} : FrQ V (up V 312 6 x) := ⟨fun a h _ _ _ => funext fun j => up_ne _ _ (Or.inl h), fun k _ => up_ne _ _ (Or.inl (by decide)), fun k h => up_ne _ _ (Or.inr h)⟩
theorem fq_8 {V : hV} {k : Nat} {x : Int32} : FrQ V (up V 318 k x) := ⟨fun a _ _ _ h => funext fun j => up_ne _ _ (Or.inl h), fun k _ => up_ne _ _ (Or.inl (by decide)), fun k h => up_ne _ _ (Or.inl (by decide))⟩
theorem fq_ask {V : hV} {n f b k : Nat} : FrQ V (askF V n f b k) := ⟨fun a _ _ _ h => funext fun j => askF_ne V n f b h j k, fun j _ => askF_ne V n f b (by decide) j k, fun j _ => askF_ne V n f b (by decide) j k⟩
/-- an answer, and what is left as it is -/
def qI (sh : List mm_C) (V : hV) : mm_V → mm_H → Prop := fun v g => ∃ (x : Int32) (W : hV), v = .inl (some (.int x)) ∧ g = hH sh W ∧ FrQ V W
def SG (V : hV) (n nf rw : Nat) : Prop := V.1 313 1 = Int32.ofNat n ∧ n ≤ 5 ∧ V.1 313 0 = Int32.ofNat nf ∧ nf ≤ 5 ∧ V.1 313 4 = Int32.ofNat rw ∧ rw < 32
theorem pe_of {x y : Int32} {n : Nat} (hn : y = Int32.ofNat n) (h5 : n ≤ 5) (h : inI x 0 (y - 1) = true) : ∃ k : Nat, k < 5 ∧ k < n ∧ x = Int32.ofNat k := by
  rw [hn] at h
  obtain ⟨k, hk, e⟩ := inI_nat (by omega) h
  exact ⟨k, by omega, hk, e⟩
theorem wo_of {x y : Int32} {n : Nat} (hn : y = Int32.ofNat n) (h5 : n ≤ 5) (h : inI x 0 (1 <<< (y &&& 31) - 1) = true) : ∃ k : Nat, k < 32 ∧ x = Int32.ofNat k := by
  subst hn
  have e : ∃ q : Nat, q ≤ 32 ∧ (1 : Int32) <<< (Int32.ofNat n &&& 31) - 1 = Int32.ofNat q - 1 := by
    obtain rfl | rfl | rfl | rfl | rfl | rfl : n = 0 ∨ n = 1 ∨ n = 2 ∨ n = 3 ∨ n = 4 ∨ n = 5 := by omega
    · exact ⟨1, by decide, by decide⟩
    · exact ⟨2, by decide, by decide⟩
    · exact ⟨4, by decide, by decide⟩
    · exact ⟨8, by decide, by decide⟩
    · exact ⟨16, by decide, by decide⟩
    · exact ⟨32, by decide, by decide⟩
  obtain ⟨q, h1, h2⟩ := e
  rw [h2] at h
  obtain ⟨k, hk, e⟩ := inI_nat (by omega) h
  exact ⟨k, by omega, e⟩
theorem e_inI {S : ww_S} {h : mm_H} {x b : Int32} : EV S 1 171 [.long x.toInt64, .long 0, .long b.toInt64] h (.inl (some (.int (bI (inI x 0 b))))) h := by
  have E := e_in (S := S) (h := h) (x := x.toInt64) (a := 0) (b := b.toInt64)
  have e : decide ((0 : Int64) ≤ x.toInt64 ∧ x.toInt64 ≤ b.toInt64) = inI x 0 b := by
    unfold inI
    have n1 : ∀ u v : Int64, u ≤ v ↔ ¬ v < u := fun u v => by rw [Int64.le_iff_toInt_le, Int64.lt_iff_toInt_lt]; omega
    simp only [n1, le_nlt, show (0 : Int64) = (0 : Int32).toInt64 from rfl, l_lt]
  rw [e] at E
  exact E
theorem wp_retz2 {S : ww_S} {D : Nat} {M : mm_M} {pc nx : Nat} {L : mm_L} {h : mm_H} {Q : mm_V → mm_H → Prop} {ax : List Nat} {p9 : Nat} (hk : mm_lk M.1 pc = some (p9, .ireturn, nx, ax)) (hM : M.2.2.1 = 2) {x : Int32} (e : ∃ b, x = bI b) (q : ∀ b, Q (.inl (some (.int (bI b)))) h) : WP S D M pc L [.int x] h Q := by
  obtain ⟨b, rfl⟩ := e
  exact wp_retZ hk hM (q b)
theorem q_alike {S : ww_S} {sh : List mm_C} {V : hV} (hM : MS sh) {n nf rw : Nat} (hS : SG V n nf rw) {x y : Int32} : EVQ S 5 260 [.ref 312, .int x, .int y] (hH sh V) (qI sh V) := by
  obtain ⟨hn, h5, hnf, h5f, hrw, h32⟩ := hS
  refine ev_of P260 rfl ?_
  by_cases hb : inI x 0 (V.1 313 1 - 1) = true
  · obtain ⟨k, hk, _, he⟩ := pe_of hn h5 hb
    by_cases hb2 : inI y 0 (1 <<< (V.1 313 0 &&& 31) - 1) = true
    · obtain ⟨w, hw, he2⟩ := wo_of hnf h5f hb2
      subst he he2
      refine wp_aload_n k260_0 rfl rfl ?_
      refine wp_aload_n k260_1 rfl rfl ?_
      refine wp_iload_n k260_2 rfl rfl ?_
      refine wp_cv (st2 := [_]) k260_3 (e_isPerson hM) (by decide) rfl rfl rfl rfl (by decide) hM.o (by decide) ?_
      refine wp_if_eq_F k260_6 (bI_n0.mpr hb) ?_
      refine wp_aload_n k260_9 rfl rfl ?_
      refine wp_iload_n k260_10 rfl rfl ?_
      refine wp_cv (st2 := [_]) k260_11 (e_isWorld hM) (by decide) rfl rfl rfl rfl (by decide) hM.o (by decide) ?_
      refine wp_if_eq_F k260_14 (bI_n0.mpr hb2) ?_
      refine wp_iconst 1 k260_17 (by decide) ?_
      refine wp_goto k260_18 ?_
      refine wp_cv (st2 := []) k260_22 (e_passes hM (b := true)) (by decide) rfl rfl rfl rfl (by decide) hM.o (by decide) ?_
      refine wp_if_eq_F k260_25 (by decide) ?_
      refine wp_aload_n k260_28 rfl rfl ?_
      refine wp_iload_n k260_29 rfl rfl ?_
      refine wp_iload_n k260_30 rfl rfl ?_
      refine wp_cv (st2 := []) k260_31 (e_alikeTo hM (p := k) (w := w) (by omega) (by omega)) (by decide) rfl rfl rfl rfl (by decide) hM.o (by decide) ?_
      refine wp_goto k260_34 ?_
      exact wp_retI k260_38 rfl ⟨_, _, rfl, rfl, (by first | exact fq_6 | exact fq_6.t fq_ask | exact fq_ask | exact FrQ.r _ | exact (fq_6.t fq_8) | exact fq_8)⟩
    · skip
      refine wp_aload_n k260_0 rfl rfl ?_
      refine wp_aload_n k260_1 rfl rfl ?_
      refine wp_iload_n k260_2 rfl rfl ?_
      refine wp_cv (st2 := [_]) k260_3 (e_isPerson hM) (by decide) rfl rfl rfl rfl (by decide) hM.o (by decide) ?_
      refine wp_if_eq_F k260_6 (bI_n0.mpr hb) ?_
      refine wp_aload_n k260_9 rfl rfl ?_
      refine wp_iload_n k260_10 rfl rfl ?_
      refine wp_cv (st2 := [_]) k260_11 (e_isWorld hM) (by decide) rfl rfl rfl rfl (by decide) hM.o (by decide) ?_
      refine wp_if_eq_T k260_14 (bI_0.mpr (Bool.eq_false_iff.mpr hb2)) ?_
      refine wp_iconst 0 k260_21 (by decide) ?_
      refine wp_cv (st2 := []) k260_22 (e_passes hM (b := false)) (by decide) rfl rfl rfl rfl (by decide) hM.o (by decide) ?_
      refine wp_if_eq_T k260_25 (by decide) ?_
      refine wp_iconst 0 k260_37 (by decide) ?_
      exact wp_retI k260_38 rfl ⟨_, _, rfl, rfl, (by first | exact fq_6 | exact fq_6.t fq_ask | exact fq_ask | exact FrQ.r _ | exact (fq_6.t fq_8) | exact fq_8)⟩
  · skip
    refine wp_aload_n k260_0 rfl rfl ?_
    refine wp_aload_n k260_1 rfl rfl ?_
    refine wp_iload_n k260_2 rfl rfl ?_
    refine wp_cv (st2 := [_]) k260_3 (e_isPerson hM) (by decide) rfl rfl rfl rfl (by decide) hM.o (by decide) ?_
    refine wp_if_eq_T k260_6 (bI_0.mpr (Bool.eq_false_iff.mpr hb)) ?_
    refine wp_iconst 0 k260_21 (by decide) ?_
    refine wp_cv (st2 := []) k260_22 (e_passes hM (b := false)) (by decide) rfl rfl rfl rfl (by decide) hM.o (by decide) ?_
    refine wp_if_eq_T k260_25 (by decide) ?_
    refine wp_iconst 0 k260_37 (by decide) ?_
    exact wp_retI k260_38 rfl ⟨_, _, rfl, rfl, (by first | exact fq_6 | exact fq_6.t fq_ask | exact fq_ask | exact FrQ.r _ | exact (fq_6.t fq_8) | exact fq_8)⟩
theorem e_firstOf {S : ww_S} {sh : List mm_C} {V : hV} (hM : MS sh) {p w : Nat} (hp : p < 5) (hw : w < 32) : ∃ b, EV S 5 261 [.ref 312, .int (Int32.ofNat p), .int (Int32.ofNat w)] (hH sh V) (.inl (some (.int (bI b)))) (hH sh V) := by
  have E : EVQ S 5 261 [.ref 312, .int (Int32.ofNat p), .int (Int32.ofNat w)] (hH sh V) (fun v g => ∃ b : Bool, v = .inl (some (.int (bI b))) ∧ g = hH sh V) := by
    refine ev_of P261 rfl ?_
    refine wp_aload_n k261_0 rfl rfl ?_
    refine wp_iload_n k261_1 rfl rfl ?_
    refine wp_cv (st2 := []) k261_2 (e_isLeft hM) (by decide) rfl rfl rfl rfl (by decide) hM.o (by decide) ?_
    refine wp_if_eq k261_5 (fun c5 => ?_) (fun c5 => ?_)
    · refine wp_iconst 0 k261_25 (by decide) ?_
      exact wp_retz2 k261_26 rfl (by first | exact ⟨false, rfl⟩ | exact ⟨true, rfl⟩) (fun b => ⟨b, rfl, rfl⟩)
    · refine wp_aload_n k261_8 rfl rfl ?_
      refine wp_iload_n k261_9 rfl rfl ?_
      refine wp_iload_n k261_10 rfl rfl ?_
      refine wp_cv (st2 := []) k261_11 (e_alikeTo hM (p := p) (w := w) (by omega) (by omega)) (by decide) rfl rfl rfl rfl (by decide) hM.o (by decide) ?_
      refine wp_cs (st2 := []) k261_14 (e_lowest) (by decide) rfl rfl rfl (by decide) ?_
      refine wp_iload_n k261_17 rfl rfl ?_
      refine wp_if_icmp_ne k261_18 (fun c18 => ?_) (fun c18 => ?_)
      · refine wp_iconst 0 k261_25 (by decide) ?_
        exact wp_retz2 k261_26 rfl (by first | exact ⟨false, rfl⟩ | exact ⟨true, rfl⟩) (fun b => ⟨b, rfl, rfl⟩)
      · refine wp_iconst 1 k261_21 (by decide) ?_
        refine wp_goto k261_22 ?_
        exact wp_retz2 k261_26 rfl (by first | exact ⟨false, rfl⟩ | exact ⟨true, rfl⟩) (fun b => ⟨b, rfl, rfl⟩)
  obtain ⟨v, g, e, b, h1, h2⟩ := E
  subst h1 h2
  exact ⟨b, e⟩
theorem l_kinds {S : ww_S} {sh : List mm_C} {V : hV} (hM : MS sh) {n nf rw : Nat} (hS : SG V n nf rw) {p : Nat} (hp : p < 5) : ∀ (g i : Nat) (x2 : Int32), g + i = 32 → WP S 7 mm_m262 18 [some (.ref 312), some (.int (Int32.ofNat p)), some (.int x2), some (.int (Int32.ofNat i))] [] (hH sh ((up V 312 6 (bI (!inI (Int32.ofNat p) 0 (V.1 313 1 - 1)))))) (qI sh V) := by
  obtain ⟨hn, h5, hnf, h5f, hrw, h32⟩ := hS
  intro g
  induction g with
  | zero =>
    intro i x2 hi
    have hi : 32 = i := by omega
    subst hi
    refine wp_iload_n k262_18 rfl rfl ?_
    refine wp_bipush 32 k262_19 (by decide) ?_
    refine wp_if_icmp_ge_T k262_21 (i_nlt (k := 32) (n := 32) (by decide) (by decide)) ?_
    refine wp_iload_n k262_42 rfl rfl ?_
    exact wp_retI k262_43 rfl ⟨_, _, rfl, rfl, (by first | exact fq_6 | exact fq_6.t fq_ask | exact fq_ask | exact FrQ.r _ | exact (fq_6.t fq_8) | exact fq_8)⟩
  | succ g ih =>
    intro i x2 hi
    refine wp_iload_n k262_18 rfl rfl ?_
    refine wp_bipush 32 k262_19 (by decide) ?_
    refine wp_if_icmp_ge_F k262_21 (i_lt (n := 32) (by omega) (by decide)) ?_
    refine wp_iload_n k262_24 rfl rfl ?_
    refine wp_aload_n k262_25 rfl rfl ?_
    refine wp_iload_n k262_26 rfl rfl ?_
    refine wp_iload_n k262_27 rfl rfl ?_
    refine wp_cv (st2 := [_]) k262_28 (e_firstOf (S := S) (V := (up V 312 6 (bI (!inI (Int32.ofNat p) 0 (V.1 313 1 - 1))))) hM (p := p) (w := i) hp (by omega)).choose_spec (by decide) rfl rfl rfl rfl (by decide) hM.o (by decide) ?_
    refine wp_cs (st2 := [_]) k262_31 (e_truth) (by decide) rfl rfl rfl (by decide) ?_
    refine wp_iadd k262_34 ?_
    refine wp_istore_n (L1 := [_, _, _, _]) k262_35 rfl rfl ?_
    refine wp_iinc (L1 := [_, _, _, _]) 1 k262_36 rfl (by decide) rfl ?_
    refine wp_goto k262_39 ?_
    rw [i_succ]
    exact ih (i + 1) _ (by omega)
theorem q_kinds {S : ww_S} {sh : List mm_C} {V : hV} (hM : MS sh) {n nf rw : Nat} (hS : SG V n nf rw) {x : Int32} : EVQ S 8 262 [.ref 312, .int x] (hH sh V) (qI sh V) := by
  obtain ⟨hn, h5, hnf, h5f, hrw, h32⟩ := hS
  refine ev_of P262 rfl ?_
  by_cases hb : inI x 0 (V.1 313 1 - 1) = true
  · obtain ⟨k, hk, _, he⟩ := pe_of hn h5 hb
    subst he
    refine wp_aload_n k262_0 rfl rfl ?_
    refine wp_aload_n k262_1 rfl rfl ?_
    refine wp_iload_n k262_2 rfl rfl ?_
    refine wp_cv (st2 := [_]) k262_3 (e_isPerson hM) (by decide) rfl rfl rfl rfl (by decide) hM.o (by decide) ?_
    refine wp_cv (st2 := []) k262_6 (e_passes hM) (by decide) rfl rfl rfl rfl (by decide) hM.o (by decide) ?_
    refine wp_if_ne_T k262_9 (bI_n0.mpr hb) ?_
    refine wp_iconst 0 k262_14 (by decide) ?_
    refine wp_istore_n (L1 := [_, _, _, _]) k262_15 rfl rfl ?_
    refine wp_iconst 0 k262_16 (by decide) ?_
    refine wp_istore_n (L1 := [_, _, _, _]) k262_17 rfl rfl ?_
    exact l_kinds (S := S) hM ⟨hn, h5, hnf, h5f, hrw, h32⟩ hk 32 0 _ rfl
  · skip
    refine wp_aload_n k262_0 rfl rfl ?_
    refine wp_aload_n k262_1 rfl rfl ?_
    refine wp_iload_n k262_2 rfl rfl ?_
    refine wp_cv (st2 := [_]) k262_3 (e_isPerson hM) (by decide) rfl rfl rfl rfl (by decide) hM.o (by decide) ?_
    refine wp_cv (st2 := []) k262_6 (e_passes hM) (by decide) rfl rfl rfl rfl (by decide) hM.o (by decide) ?_
    refine wp_if_ne_F k262_9 (bI_0.mpr (Bool.eq_false_iff.mpr hb)) ?_
    refine wp_iconst 0 k262_12 (by decide) ?_
    exact wp_retI k262_13 rfl ⟨_, _, rfl, rfl, (by first | exact fq_6 | exact fq_6.t fq_ask | exact fq_ask | exact FrQ.r _ | exact (fq_6.t fq_8) | exact fq_8)⟩
theorem l_doubts {S : ww_S} {sh : List mm_C} {V : hV} (hM : MS sh) {n nf rw : Nat} (hS : SG V n nf rw) {p : Nat} (hp : p < 5) : ∀ (g i : Nat) (x2 : Int32), g + i = 32 → WP S 7 mm_m263 18 [some (.ref 312), some (.int (Int32.ofNat p)), some (.int x2), some (.int (Int32.ofNat i))] [] (hH sh ((up V 312 6 (bI (!inI (Int32.ofNat p) 0 (V.1 313 1 - 1)))))) (qI sh V) := by
  obtain ⟨hn, h5, hnf, h5f, hrw, h32⟩ := hS
  intro g
  induction g with
  | zero =>
    intro i x2 hi
    have hi : 32 = i := by omega
    subst hi
    refine wp_iload_n k263_18 rfl rfl ?_
    refine wp_bipush 32 k263_19 (by decide) ?_
    refine wp_if_icmp_ge_T k263_21 (i_nlt (k := 32) (n := 32) (by decide) (by decide)) ?_
    refine wp_iload_n k263_56 rfl rfl ?_
    refine wp_iconst 2 k263_57 (by decide) ?_
    refine wp_idiv k263_58 (by decide) ?_
    exact wp_retI k263_59 rfl ⟨_, _, rfl, rfl, (by first | exact fq_6 | exact fq_6.t fq_ask | exact fq_ask | exact FrQ.r _ | exact (fq_6.t fq_8) | exact fq_8)⟩
  | succ g ih =>
    intro i x2 hi
    refine wp_iload_n k263_18 rfl rfl ?_
    refine wp_bipush 32 k263_19 (by decide) ?_
    refine wp_if_icmp_ge_F k263_21 (i_lt (n := 32) (by omega) (by decide)) ?_
    refine wp_iload_n k263_24 rfl rfl ?_
    refine wp_aload_n k263_25 rfl rfl ?_
    refine wp_iload_n k263_26 rfl rfl ?_
    refine wp_cv (st2 := [_]) k263_27 (e_isLeft hM) (by decide) rfl rfl rfl rfl (by decide) hM.o (by decide) ?_
    refine wp_if_eq k263_30 (fun c30 => ?_) (fun c30 => ?_)
    · refine wp_iconst 0 k263_47 (by decide) ?_
      refine wp_iadd k263_48 ?_
      refine wp_istore_n (L1 := [_, _, _, _]) k263_49 rfl rfl ?_
      refine wp_iinc (L1 := [_, _, _, _]) 1 k263_50 rfl (by decide) rfl ?_
      refine wp_goto k263_53 ?_
      rw [i_succ]
      exact ih (i + 1) _ (by omega)
    · refine wp_aload_n k263_33 rfl rfl ?_
      refine wp_iload_n k263_34 rfl rfl ?_
      refine wp_iload_n k263_35 rfl rfl ?_
      refine wp_cv (st2 := [_]) k263_36 (e_alikeTo hM (p := p) (w := i) (by omega) (by omega)) (by decide) rfl rfl rfl rfl (by decide) hM.o (by decide) ?_
      refine wp_cs (st2 := [_]) k263_39 (e_bits) (by decide) rfl rfl rfl (by decide) ?_
      refine wp_iconst 1 k263_42 (by decide) ?_
      refine wp_isub k263_43 ?_
      refine wp_goto k263_44 ?_
      refine wp_iadd k263_48 ?_
      refine wp_istore_n (L1 := [_, _, _, _]) k263_49 rfl rfl ?_
      refine wp_iinc (L1 := [_, _, _, _]) 1 k263_50 rfl (by decide) rfl ?_
      refine wp_goto k263_53 ?_
      rw [i_succ]
      exact ih (i + 1) _ (by omega)
theorem q_doubts {S : ww_S} {sh : List mm_C} {V : hV} (hM : MS sh) {n nf rw : Nat} (hS : SG V n nf rw) {x : Int32} : EVQ S 8 263 [.ref 312, .int x] (hH sh V) (qI sh V) := by
  obtain ⟨hn, h5, hnf, h5f, hrw, h32⟩ := hS
  refine ev_of P263 rfl ?_
  by_cases hb : inI x 0 (V.1 313 1 - 1) = true
  · obtain ⟨k, hk, _, he⟩ := pe_of hn h5 hb
    subst he
    refine wp_aload_n k263_0 rfl rfl ?_
    refine wp_aload_n k263_1 rfl rfl ?_
    refine wp_iload_n k263_2 rfl rfl ?_
    refine wp_cv (st2 := [_]) k263_3 (e_isPerson hM) (by decide) rfl rfl rfl rfl (by decide) hM.o (by decide) ?_
    refine wp_cv (st2 := []) k263_6 (e_passes hM) (by decide) rfl rfl rfl rfl (by decide) hM.o (by decide) ?_
    refine wp_if_ne_T k263_9 (bI_n0.mpr hb) ?_
    refine wp_iconst 0 k263_14 (by decide) ?_
    refine wp_istore_n (L1 := [_, _, _, _]) k263_15 rfl rfl ?_
    refine wp_iconst 0 k263_16 (by decide) ?_
    refine wp_istore_n (L1 := [_, _, _, _]) k263_17 rfl rfl ?_
    exact l_doubts (S := S) hM ⟨hn, h5, hnf, h5f, hrw, h32⟩ hk 32 0 _ rfl
  · skip
    refine wp_aload_n k263_0 rfl rfl ?_
    refine wp_aload_n k263_1 rfl rfl ?_
    refine wp_iload_n k263_2 rfl rfl ?_
    refine wp_cv (st2 := [_]) k263_3 (e_isPerson hM) (by decide) rfl rfl rfl rfl (by decide) hM.o (by decide) ?_
    refine wp_cv (st2 := []) k263_6 (e_passes hM) (by decide) rfl rfl rfl rfl (by decide) hM.o (by decide) ?_
    refine wp_if_ne_F k263_9 (bI_0.mpr (Bool.eq_false_iff.mpr hb)) ?_
    refine wp_iconst 0 k263_12 (by decide) ?_
    exact wp_retI k263_13 rfl ⟨_, _, rfl, rfl, (by first | exact fq_6 | exact fq_6.t fq_ask | exact fq_ask | exact FrQ.r _ | exact (fq_6.t fq_8) | exact fq_8)⟩
theorem q_reach {S : ww_S} {sh : List mm_C} {V : hV} (hM : MS sh) {n nf rw : Nat} (hS : SG V n nf rw) {x : Int32} : EVQ S 8 264 [.ref 312, .int x] (hH sh V) (qI sh V) := by
  obtain ⟨hn, h5, hnf, h5f, hrw, h32⟩ := hS
  refine ev_of P264 rfl ?_
  refine wp_aload_n k264_0 rfl rfl ?_
  refine wp_aload_n k264_1 rfl rfl ?_
  refine wp_iload_n k264_2 rfl rfl ?_
  refine wp_cv (st2 := [_]) k264_3 (e_isWorld hM) (by decide) rfl rfl rfl rfl (by decide) hM.o (by decide) ?_
  refine wp_cv (st2 := []) k264_6 (e_passes hM) (by decide) rfl rfl rfl rfl (by decide) hM.o (by decide) ?_
  refine wp_if_eq k264_9 (fun c9 => ?_) (fun c9 => ?_)
  · refine wp_iconst 0 k264_20 (by decide) ?_
    exact wp_retI k264_21 rfl ⟨_, _, rfl, rfl, (by first | exact fq_6 | exact fq_6.t fq_ask | exact fq_ask | exact FrQ.r _ | exact (fq_6.t fq_8) | exact fq_8)⟩
  · refine wp_aload_n k264_12 rfl rfl ?_
    refine wp_iload_n k264_13 rfl rfl ?_
    refine wp_cv (st2 := []) k264_14 (e_reachedFrom hM (by first | exact hn | exact (askF_ne _ _ _ _ (by decide) _ _).trans hn) h5) (by decide) rfl rfl rfl rfl (by decide) hM.o (by decide) ?_
    refine wp_goto k264_17 ?_
    exact wp_retI k264_21 rfl ⟨_, _, rfl, rfl, (by first | exact fq_6 | exact fq_6.t fq_ask | exact fq_ask | exact FrQ.r _ | exact (fq_6.t fq_8) | exact fq_8)⟩
theorem q_holds {S : ww_S} {sh : List mm_C} {V : hV} (hM : MS sh) {n nf rw : Nat} (hS : SG V n nf rw) {m : Nat} (hF : FOK V n 313 320 m) {x : Int32} : EVQ S 12 266 [.ref 312, .int x] (hH sh V) (qI sh V) := by
  obtain ⟨hn, h5, hnf, h5f, hrw, h32⟩ := hS
  refine ev_of P266 rfl ?_
  refine wp_aload_n k266_0 rfl rfl ?_
  refine wp_aload_n k266_1 rfl rfl ?_
  refine wp_iload_n k266_2 rfl rfl ?_
  refine wp_cv (st2 := [_]) k266_3 (e_isWorld hM) (by decide) rfl rfl rfl rfl (by decide) hM.o (by decide) ?_
  refine wp_cv (st2 := []) k266_6 (e_passes hM) (by decide) rfl rfl rfl rfl (by decide) hM.o (by decide) ?_
  refine wp_if_eq k266_9 (fun c9 => ?_) (fun c9 => ?_)
  · refine wp_iconst 0 k266_27 (by decide) ?_
    exact wp_retz2 k266_28 rfl (by first | exact ⟨false, rfl⟩ | exact ⟨true, rfl⟩ | exact ⟨_, rfl⟩) (fun b => ⟨_, _, rfl, rfl, (by first | exact fq_6 | exact fq_6.t fq_ask | exact fq_ask | exact FrQ.r _ | exact (fq_6.t fq_8) | exact fq_8)⟩)
  · refine wp_aload_n k266_12 rfl rfl ?_
    refine wp_cv (st2 := []) k266_13 (e_question hM (by first | exact hn | exact (askF_ne _ _ _ _ (by decide) _ _).trans hn) h5 (by exact hF)) (by decide) rfl rfl rfl rfl (by decide) hM.o (by decide) ?_
    refine wp_iload_n k266_16 rfl rfl ?_
    refine wp_cs (st2 := []) k266_17 (e_has) (by decide) rfl rfl rfl (by decide) ?_
    refine wp_if_eq k266_20 (fun c20 => ?_) (fun c20 => ?_)
    · refine wp_iconst 0 k266_27 (by decide) ?_
      exact wp_retz2 k266_28 rfl (by first | exact ⟨false, rfl⟩ | exact ⟨true, rfl⟩ | exact ⟨_, rfl⟩) (fun b => ⟨_, _, rfl, rfl, (by first | exact fq_6 | exact fq_6.t fq_ask | exact fq_ask | exact FrQ.r _ | exact (fq_6.t fq_8) | exact fq_8)⟩)
    · refine wp_iconst 1 k266_23 (by decide) ?_
      refine wp_goto k266_24 ?_
      exact wp_retz2 k266_28 rfl (by first | exact ⟨false, rfl⟩ | exact ⟨true, rfl⟩ | exact ⟨_, rfl⟩) (fun b => ⟨_, _, rfl, rfl, (by first | exact fq_6 | exact fq_6.t fq_ask | exact fq_ask | exact FrQ.r _ | exact (fq_6.t fq_8) | exact fq_8)⟩)
theorem q_truth {S : ww_S} {sh : List mm_C} {V : hV} (hM : MS sh) {n nf rw : Nat} (hS : SG V n nf rw) {m : Nat} (hF : FOK V n 313 320 m) : EVQ S 12 267 [.ref 312] (hH sh V) (qI sh V) := by
  obtain ⟨hn, h5, hnf, h5f, hrw, h32⟩ := hS
  refine ev_of P267 rfl ?_
  refine wp_aload_n k267_0 rfl rfl ?_
  refine wp_iconst 0 k267_1 (by decide) ?_
  refine wp_putI k267_2 (by decide) hM.o rfl rfl rfl ?_
  refine wp_aload_n k267_5 rfl rfl ?_
  refine wp_cv (st2 := []) k267_6 (e_question hM (by first | exact hn | exact (askF_ne _ _ _ _ (by decide) _ _).trans hn) h5 (by exact hF)) (by decide) rfl rfl rfl rfl (by decide) hM.o (by decide) ?_
  exact wp_retI k267_9 rfl ⟨_, _, rfl, rfl, (by first | exact fq_6 | exact fq_6.t fq_ask | exact fq_ask | exact FrQ.r _ | exact (fq_6.t fq_8) | exact fq_8)⟩
theorem q_whether {S : ww_S} {sh : List mm_C} {V : hV} (hM : MS sh) {n nf rw : Nat} (hS : SG V n nf rw) {m : Nat} (hF : FOK V n 313 320 m) : EVQ S 12 269 [.ref 312] (hH sh V) (qI sh V) := by
  obtain ⟨hn, h5, hnf, h5f, hrw, h32⟩ := hS
  refine ev_of P269 rfl ?_
  refine wp_aload_n k269_0 rfl rfl ?_
  refine wp_iconst 0 k269_1 (by decide) ?_
  refine wp_putI k269_2 (by decide) hM.o rfl rfl rfl ?_
  refine wp_aload_n k269_5 rfl rfl ?_
  refine wp_aload_n k269_6 rfl rfl ?_
  refine wp_getR k269_7 (by decide) hM.o rfl ?_
  refine wp_iconst 4 k269_10 (by decide) ?_
  refine wp_iaload k269_11 (by decide) (hM.a313) (by decide) 4 (by decide) (Int32.ofNat rw) hrw ?_
  refine wp_aload_n k269_12 rfl rfl ?_
  refine wp_cv (st2 := [_, _]) k269_13 (e_question hM (by first | exact hn | exact (askF_ne _ _ _ _ (by decide) _ _).trans hn) h5 (by exact hF)) (by decide) rfl rfl rfl rfl (by decide) hM.o (by decide) ?_
  refine wp_cv (st2 := []) k269_16 (e_knowersOf hM (by first | exact hn | exact (askF_ne _ _ _ _ (by decide) _ _).trans hn) h5 (w := rw) (by omega)) (by decide) rfl rfl rfl rfl (by decide) hM.o (by decide) ?_
  exact wp_retI k269_19 rfl ⟨_, _, rfl, rfl, (by first | exact fq_6 | exact fq_6.t fq_ask | exact fq_ask | exact FrQ.r _ | exact (fq_6.t fq_8) | exact fq_8)⟩
theorem q_isCommon {S : ww_S} {sh : List mm_C} {V : hV} (hM : MS sh) {n nf rw : Nat} (hS : SG V n nf rw) {m : Nat} (hF : FOK V n 313 320 m) : EVQ S 12 270 [.ref 312] (hH sh V) (qI sh V) := by
  obtain ⟨hn, h5, hnf, h5f, hrw, h32⟩ := hS
  refine ev_of P270 rfl ?_
  refine wp_aload_n k270_0 rfl rfl ?_
  refine wp_iconst 0 k270_1 (by decide) ?_
  refine wp_putI k270_2 (by decide) hM.o rfl rfl rfl ?_
  refine wp_aload_n k270_5 rfl rfl ?_
  refine wp_aload_n k270_6 rfl rfl ?_
  refine wp_getR k270_7 (by decide) hM.o rfl ?_
  refine wp_iconst 4 k270_10 (by decide) ?_
  refine wp_iaload k270_11 (by decide) (hM.a313) (by decide) 4 (by decide) (Int32.ofNat rw) hrw ?_
  refine wp_cv (st2 := []) k270_12 (e_reachedFrom hM (by first | exact hn | exact (askF_ne _ _ _ _ (by decide) _ _).trans hn) h5) (by decide) rfl rfl rfl rfl (by decide) hM.o (by decide) ?_
  refine wp_aload_n k270_15 rfl rfl ?_
  refine wp_cv (st2 := [_]) k270_16 (e_question hM (by first | exact hn | exact (askF_ne _ _ _ _ (by decide) _ _).trans hn) h5 (by exact hF)) (by decide) rfl rfl rfl rfl (by decide) hM.o (by decide) ?_
  refine wp_iconst (-1) k270_19 (by decide) ?_
  refine wp_ixor k270_20 ?_
  refine wp_iand k270_21 ?_
  refine wp_if_ne k270_22 (fun c22 => ?_) (fun c22 => ?_)
  · refine wp_iconst 0 k270_29 (by decide) ?_
    exact wp_retz2 k270_30 rfl (by first | exact ⟨false, rfl⟩ | exact ⟨true, rfl⟩ | exact ⟨_, rfl⟩) (fun b => ⟨_, _, rfl, rfl, (by first | exact fq_6 | exact fq_6.t fq_ask | exact fq_ask | exact FrQ.r _ | exact (fq_6.t fq_8) | exact fq_8)⟩)
  · refine wp_iconst 1 k270_25 (by decide) ?_
    refine wp_goto k270_26 ?_
    exact wp_retz2 k270_30 rfl (by first | exact ⟨false, rfl⟩ | exact ⟨true, rfl⟩ | exact ⟨_, rfl⟩) (fun b => ⟨_, _, rfl, rfl, (by first | exact fq_6 | exact fq_6.t fq_ask | exact fq_ask | exact FrQ.r _ | exact (fq_6.t fq_8) | exact fq_8)⟩)
theorem l_who {S : ww_S} {sh : List mm_C} {V : hV} (hM : MS sh) {n nf rw : Nat} (hS : SG V n nf rw) {m : Nat} (hF : FOK V n 313 320 m) : ∀ (g i : Nat) (x1 : Int32) (x2 : Int32), g + i = n → WP S 11 mm_m268 14 [some (.ref 312), some (.int x1), some (.int x2), some (.int (Int32.ofNat i))] [] (hH sh ((askF (up V 312 6 0) n 313 320 m))) (qI sh V) := by
  obtain ⟨hn, h5, hnf, h5f, hrw, h32⟩ := hS
  intro g
  induction g with
  | zero =>
    intro i x1 x2 hi
    have hi : n = i := by omega
    subst hi
    have hn2 : (askF (up V 312 6 0) n 313 320 m).1 313 1 = Int32.ofNat n := (askF_ne _ n 313 320 (by decide) 1 m).trans hn
    have hrw2 : (askF (up V 312 6 0) n 313 320 m).1 313 4 = Int32.ofNat rw := (askF_ne _ n 313 320 (by decide) 4 m).trans hrw
    have EQ := e_persons (S := S) (V := (askF (up V 312 6 0) n 313 320 m)) hM
    rw [hn2] at EQ
    refine wp_iload_n k268_14 rfl rfl ?_
    refine wp_aload_n k268_15 rfl rfl ?_
    refine wp_cv (st2 := [_]) k268_16 EQ (by decide) rfl rfl rfl rfl (by decide) hM.o (by decide) ?_
    refine wp_if_icmp_ge_T k268_19 (i_nlt (Nat.le_refl _) (by omega)) ?_
    refine wp_iload_n k268_59 rfl rfl ?_
    exact wp_retI k268_60 rfl ⟨_, _, rfl, rfl, (by first | exact fq_6 | exact fq_6.t fq_ask | exact fq_ask | exact FrQ.r _ | exact (fq_6.t fq_8) | exact fq_8)⟩
  | succ g ih =>
    intro i x1 x2 hi
    have hn2 : (askF (up V 312 6 0) n 313 320 m).1 313 1 = Int32.ofNat n := (askF_ne _ n 313 320 (by decide) 1 m).trans hn
    have hrw2 : (askF (up V 312 6 0) n 313 320 m).1 313 4 = Int32.ofNat rw := (askF_ne _ n 313 320 (by decide) 4 m).trans hrw
    have EQ := e_persons (S := S) (V := (askF (up V 312 6 0) n 313 320 m)) hM
    rw [hn2] at EQ
    refine wp_iload_n k268_14 rfl rfl ?_
    refine wp_aload_n k268_15 rfl rfl ?_
    refine wp_cv (st2 := [_]) k268_16 EQ (by decide) rfl rfl rfl rfl (by decide) hM.o (by decide) ?_
    refine wp_if_icmp_ge_F k268_19 (i_lt (by omega) (by omega)) ?_
    refine wp_iload_n k268_22 rfl rfl ?_
    refine wp_aload_n k268_23 rfl rfl ?_
    refine wp_iload_n k268_24 rfl rfl ?_
    refine wp_aload_n k268_25 rfl rfl ?_
    refine wp_getR k268_26 (by decide) hM.o rfl ?_
    refine wp_iconst 4 k268_29 (by decide) ?_
    refine wp_iaload k268_30 (by decide) (hM.a313) (by decide) 4 (by decide) (Int32.ofNat rw) hrw2 ?_
    refine wp_cv (st2 := [_]) k268_31 (e_alikeTo hM (p := i) (w := rw) (by omega) (by omega)) (by decide) rfl rfl rfl rfl (by decide) hM.o (by decide) ?_
    refine wp_iload_n k268_34 rfl rfl ?_
    refine wp_iconst (-1) k268_35 (by decide) ?_
    refine wp_ixor k268_36 ?_
    refine wp_iand k268_37 ?_
    refine wp_if_ne k268_38 (fun c38 => ?_) (fun c38 => ?_)
    · refine wp_iconst 0 k268_45 (by decide) ?_
      refine wp_cs (st2 := [_]) k268_46 (e_truth) (by decide) rfl rfl rfl (by decide) ?_
      refine wp_iload_n k268_49 rfl rfl ?_
      refine wp_ishl k268_50 ?_
      refine wp_ior k268_51 ?_
      refine wp_istore_n (L1 := [_, _, _, _]) k268_52 rfl rfl ?_
      refine wp_iinc (L1 := [_, _, _, _]) 1 k268_53 rfl (by decide) rfl ?_
      refine wp_goto k268_56 ?_
      rw [i_succ]
      exact ih (i + 1) _ _ (by omega)
    · refine wp_iconst 1 k268_41 (by decide) ?_
      refine wp_goto k268_42 ?_
      refine wp_cs (st2 := [_]) k268_46 (e_truth) (by decide) rfl rfl rfl (by decide) ?_
      refine wp_iload_n k268_49 rfl rfl ?_
      refine wp_ishl k268_50 ?_
      refine wp_ior k268_51 ?_
      refine wp_istore_n (L1 := [_, _, _, _]) k268_52 rfl rfl ?_
      refine wp_iinc (L1 := [_, _, _, _]) 1 k268_53 rfl (by decide) rfl ?_
      refine wp_goto k268_56 ?_
      rw [i_succ]
      exact ih (i + 1) _ _ (by omega)
theorem q_who {S : ww_S} {sh : List mm_C} {V : hV} (hM : MS sh) {n nf rw : Nat} (hS : SG V n nf rw) {m : Nat} (hF : FOK V n 313 320 m) : EVQ S 12 268 [.ref 312] (hH sh V) (qI sh V) := by
  obtain ⟨hn, h5, hnf, h5f, hrw, h32⟩ := hS
  refine ev_of P268 rfl ?_
  refine wp_aload_n k268_0 rfl rfl ?_
  refine wp_iconst 0 k268_1 (by decide) ?_
  refine wp_putI k268_2 (by decide) hM.o rfl rfl rfl ?_
  refine wp_aload_n k268_5 rfl rfl ?_
  refine wp_cv (st2 := []) k268_6 (e_question hM (by first | exact hn | exact (askF_ne _ _ _ _ (by decide) _ _).trans hn) h5 (by exact hF)) (by decide) rfl rfl rfl rfl (by decide) hM.o (by decide) ?_
  refine wp_istore_n (L1 := [_, _, _, _]) k268_9 rfl rfl ?_
  refine wp_iconst 0 k268_10 (by decide) ?_
  refine wp_istore_n (L1 := [_, _, _, _]) k268_11 rfl rfl ?_
  refine wp_iconst 0 k268_12 (by decide) ?_
  refine wp_istore_n (L1 := [_, _, _, _]) k268_13 rfl rfl ?_
  exact l_who (S := S) hM ⟨hn, h5, hnf, h5f, hrw, h32⟩ hF n 0 _ _ rfl
end M40
