section N_a
/-! ===== the class, exactly: bytes, letters, words ===== -/
/-- the source holds l bytes, f -/
def SoT (sh : List mm_C) (V : hV) (f : Nat → Int32) (l : Nat) : Prop := kSrc sh ∧ V.1 65 4 = Int32.ofNat l ∧ l ≤ 600 ∧ V.1 66 = f
/-- a word stands at p, and no letter behind it -/
def spB (f : Nat → Int32) (l p n N : Nat) : Bool := allF (fun i => decide (byt f l (p + i) = chr N i)) n 0 && !ltr (byt f l (p + n))
def nmG (f : Nat → Int32) (l p : Nat) : Nat → Nat → Int32 → Int32
  | 0, _, a => a
  | g + 1, i, a => if ltr (byt f l (p + i)) = true then nmG f l p g (i + 1) (a ||| (byt f l (p + i) - 96) <<< (5 * Int32.ofNat i &&& 31)) else a
/-- the name that stands at p -/
abbrev nmF (f : Nat → Int32) (l p : Nat) : Int32 := nmG f l p 6 0 0
theorem s_byteAt {S : ww_S} {sh : List mm_C} {V : hV} {f : Nat → Int32} {l k : Nat} (h : SoT sh V f l) (hk : k ≤ 100000) : EV S 1 72 [.ref 65, .int (Int32.ofNat k)] (hH sh V) (.inl (some (.int (byt f l k)))) (hH sh V) := by
  obtain ⟨hS, hl, h6, hf⟩ := h
  subst hf
  refine ev_qe P72 rfl ?_
  refine wp_iload_n k72_0 rfl rfl ?_
  refine wp_if_lt_F k72_1 (i_nlt (k := k) (n := 0) (Nat.zero_le _) (by omega)) ?_
  refine wp_iload_n k72_4 rfl rfl ?_
  refine wp_aload_n k72_5 rfl rfl ?_
  refine wp_getI k72_6 hS.1.h hS.1.o rfl (Int32.ofNat l) hl ?_
  by_cases c : k < l
  · refine wp_if_icmp_ge_F k72_9 (i_lt c (by omega)) ?_
    refine wp_iload_n k72_12 rfl rfl ?_
    refine wp_aload_n k72_13 rfl rfl ?_
    refine wq_getR k72_14 hS.1 rfl ?_
    refine wp_alen k72_17 rfl hS.2.1.h hS.2.1.o ?_
    refine wp_if_icmp_ge_F k72_18 (i_lt (k := k) (n := 600) (by omega) (by decide)) ?_
    refine wp_aload_n k72_21 rfl rfl ?_
    refine wq_getR k72_22 hS.1 rfl ?_
    refine wp_iload_n k72_25 rfl rfl ?_
    refine wp_iaload k72_26 hS.2.1.h hS.2.1.o (in_of (i_nlt (k := k) (n := 0) (Nat.zero_le _) (by omega)) (i_lt (k := k) (n := 600) (by omega) (by decide)) (by decide)) k (i_un (by omega)) (byt (V.1 66) l k) (by unfold byt; rw [if_pos c]) ?_
    refine wp_goto k72_27 ?_
    exact wp_reti k72_31 rfl rfl rfl
  · refine wp_if_icmp_ge_T k72_9 (i_nlt (by omega) (by omega)) ?_
    refine wp_iconst (-1) k72_30 (by decide) ?_
    exact wp_reti k72_31 rfl (by rw [byt_ge (by omega)]) rfl
theorem s_isLetter {S : ww_S} {sh : List mm_C} {V : hV} {f : Nat → Int32} {l k : Nat} (h : SoT sh V f l) (hk : k ≤ 100000) : EV S 2 71 [.ref 65, .int (Int32.ofNat k)] (hH sh V) (.inl (some (.int (bI (ltr (byt f l k)))))) (hH sh V) := by
  have E := s_byteAt (S := S) h hk
  refine ev_qe P71 rfl ?_
  refine wp_aload_n k71_0 rfl rfl ?_
  refine wp_iload_n k71_1 rfl rfl ?_
  refine wp_cv (st2 := []) k71_2 E (by decide) rfl rfl rfl rfl (by decide) h.1.1.o (by decide) ?_
  refine wp_bipush 97 k71_5 (by decide) ?_
  unfold ltr
  by_cases c1 : byt f l k < 97
  · refine wp_if_icmp_lt_T k71_7 c1 ?_
    refine wp_iconst 0 k71_24 (by decide) ?_
    exact wp_retz k71_25 rfl (by rw [decide_eq_false (fun q => Int32.not_lt.mpr q.1 c1)]; rfl) rfl
  · refine wp_if_icmp_lt_F k71_7 c1 ?_
    refine wp_aload_n k71_10 rfl rfl ?_
    refine wp_iload_n k71_11 rfl rfl ?_
    refine wp_cv (st2 := []) k71_12 E (by decide) rfl rfl rfl rfl (by decide) h.1.1.o (by decide) ?_
    refine wp_bipush 122 k71_15 (by decide) ?_
    by_cases c2 : 122 < byt f l k
    · refine wp_if_icmp_gt_T k71_17 c2 ?_
      refine wp_iconst 0 k71_24 (by decide) ?_
      exact wp_retz k71_25 rfl (by rw [decide_eq_false (fun q => Int32.not_lt.mpr q.2 c2)]; rfl) rfl
    · refine wp_if_icmp_gt_F k71_17 c2 ?_
      refine wp_iconst 1 k71_20 (by decide) ?_
      refine wp_goto k71_21 ?_
      exact wp_retz k71_25 rfl (by rw [decide_eq_true ⟨Int32.not_lt.mp c1, Int32.not_lt.mp c2⟩]; rfl) rfl
theorem s_spells {S : ww_S} {sh : List mm_C} {V : hV} {f : Nat → Int32} {l p k n N : Nat} (h : SoT sh V f l) (hp : p ≤ 90000) (hx : XS k n N) : EV S 5 70 [.ref 65, .int (Int32.ofNat p), .ref k] (hH sh V) (.inl (some (.int (bI (spB f l p n N))))) (hH sh V) := by
  have hn := hx.2.2.2
  have key : ∀ (g i : Nat), g + i = n → WP S 4 mm_m70 2 [some (.ref 65), some (.int (Int32.ofNat p)), some (.ref k), some (.int (Int32.ofNat i))] [] (hH sh V) (qe (.inl (some (.int (bI (allF (fun i => decide (byt f l (p + i) = chr N i)) g i && !ltr (byt f l (p + n)))))) ) (hH sh V)) := by
    intro g
    induction g with
    | zero =>
      intro i hi
      have hi : n = i := by omega
      subst hi
      refine wp_iload_n k70_2 rfl rfl ?_
      refine wp_aload_n k70_3 rfl rfl ?_
      refine wp_cvx (st2 := [_]) k70_4 (e_slen hx) (by decide) rfl rfl rfl rfl hx.lt hx.2.1 (by decide) ?_
      refine wp_if_icmp_ge_T k70_7 (i_nlt (Nat.le_refl _) (by omega)) ?_
      refine wp_aload_n k70_33 rfl rfl ?_
      refine wp_iload_n k70_34 rfl rfl ?_
      refine wp_aload_n k70_35 rfl rfl ?_
      refine wp_cvx (st2 := [_, _]) k70_36 (e_slen hx) (by decide) rfl rfl rfl rfl hx.lt hx.2.1 (by decide) ?_
      refine wp_iadd k70_39 ?_
      refine wp_cast (i_add p n) ?_
      refine wp_cv (st2 := []) k70_40 (s_isLetter h (by omega)) (by decide) rfl rfl rfl rfl (by decide) h.1.1.o (by decide) ?_
      unfold allF
      cases hl : ltr (byt f l (p + n)) with
      | true =>
        refine wp_if_ne_T k70_43 (by decide) ?_
        refine wp_iconst 0 k70_50 (by decide) ?_
        exact wp_retz k70_51 rfl rfl rfl
      | false =>
        refine wp_if_ne_F k70_43 rfl ?_
        refine wp_iconst 1 k70_46 (by decide) ?_
        refine wp_goto k70_47 ?_
        exact wp_retz k70_51 rfl rfl rfl
    | succ g ih =>
      intro i hi
      refine wp_iload_n k70_2 rfl rfl ?_
      refine wp_aload_n k70_3 rfl rfl ?_
      refine wp_cvx (st2 := [_]) k70_4 (e_slen hx) (by decide) rfl rfl rfl rfl hx.lt hx.2.1 (by decide) ?_
      refine wp_if_icmp_ge_F k70_7 (i_lt (by omega) (by omega)) ?_
      refine wp_aload_n k70_10 rfl rfl ?_
      refine wp_iload_n k70_11 rfl rfl ?_
      refine wp_iload_n k70_12 rfl rfl ?_
      refine wp_iadd k70_13 ?_
      refine wp_cast (i_add p i) ?_
      refine wp_cv (st2 := []) k70_14 (s_byteAt h (by omega)) (by decide) rfl rfl rfl rfl (by decide) h.1.1.o (by decide) ?_
      refine wp_aload_n k70_17 rfl rfl ?_
      refine wp_iload_n k70_18 rfl rfl ?_
      refine wp_cvx (st2 := [_]) k70_19 (e_char hx (i := i) (by omega)) (by decide) rfl rfl rfl rfl hx.lt hx.2.1 (by decide) ?_
      unfold allF
      by_cases c : byt f l (p + i) = chr N i
      · refine wp_if_icmp_eq_T k70_22 c ?_
        refine wp_iinc 1 (L1 := [_, _, _, _]) k70_27 rfl (by decide) rfl ?_
        refine wp_goto k70_30 ?_
        rw [i_succ, decide_eq_true c, Bool.true_and]
        exact ih (i + 1) (by omega)
      · refine wp_if_icmp_eq_F k70_22 c ?_
        refine wp_iconst 0 k70_25 (by decide) ?_
        exact wp_retz k70_26 rfl (by rw [decide_eq_false c, Bool.false_and, Bool.false_and]; rfl) rfl
  refine ev_qe P70 rfl ?_
  refine wp_iconst 0 k70_0 (by decide) ?_
  refine wp_istore_n (L1 := [_, _, _, _]) k70_1 rfl rfl ?_
  exact key n 0 rfl
theorem s_nameAt {S : ww_S} {sh : List mm_C} {V : hV} {f : Nat → Int32} {l p : Nat} (h : SoT sh V f l) (hp : p ≤ 90000) : EV S 3 69 [.ref 65, .int (Int32.ofNat p)] (hH sh V) (.inl (some (.int (nmF f l p)))) (hH sh V) := by
  have key : ∀ (g i : Nat) (a : Int32), g + i = 6 → WP S 2 mm_m69 4 [some (.ref 65), some (.int (Int32.ofNat p)), some (.int a), some (.int (Int32.ofNat i))] [] (hH sh V) (qe (.inl (some (.int (nmG f l p g i a)))) (hH sh V)) := by
    intro g
    induction g with
    | zero =>
      intro i a hi
      have hi : 6 = i := by omega
      subst hi
      refine wp_iload_n k69_4 rfl rfl ?_
      refine wp_bipush 6 k69_5 (by decide) ?_
      refine wp_if_icmp_ge_T k69_7 (by decide) ?_
      refine wp_iload_n k69_43 rfl rfl ?_
      exact wp_reti k69_44 rfl rfl rfl
    | succ g ih =>
      intro i a hi
      refine wp_iload_n k69_4 rfl rfl ?_
      refine wp_bipush 6 k69_5 (by decide) ?_
      refine wp_if_icmp_ge_F k69_7 (i_lt (k := i) (n := 6) (by omega) (by decide)) ?_
      refine wp_aload_n k69_10 rfl rfl ?_
      refine wp_iload_n k69_11 rfl rfl ?_
      refine wp_iload_n k69_12 rfl rfl ?_
      refine wp_iadd k69_13 ?_
      refine wp_cast (i_add p i) ?_
      refine wp_cv (st2 := []) k69_14 (s_isLetter h (by omega)) (by decide) rfl rfl rfl rfl (by decide) h.1.1.o (by decide) ?_
      unfold nmG
      cases hl : ltr (byt f l (p + i)) with
      | false =>
        refine wp_if_eq_T k69_17 rfl ?_
        refine wp_iload_n k69_43 rfl rfl ?_
        exact wp_reti k69_44 rfl rfl rfl
      | true =>
        refine wp_if_eq_F k69_17 (by decide) ?_
        refine wp_iload_n k69_20 rfl rfl ?_
        refine wp_aload_n k69_21 rfl rfl ?_
        refine wp_iload_n k69_22 rfl rfl ?_
        refine wp_iload_n k69_23 rfl rfl ?_
        refine wp_iadd k69_24 ?_
        refine wp_cast (i_add p i) ?_
        refine wp_cv (st2 := [_]) k69_25 (s_byteAt h (by omega)) (by decide) rfl rfl rfl rfl (by decide) h.1.1.o (by decide) ?_
        refine wp_bipush 96 k69_28 (by decide) ?_
        refine wp_isub k69_30 ?_
        refine wp_iconst 5 k69_31 (by decide) ?_
        refine wp_iload_n k69_32 rfl rfl ?_
        refine wp_imul k69_33 ?_
        refine wp_ishl k69_34 ?_
        refine wp_ior k69_35 ?_
        refine wp_istore_n (L1 := [_, _, _, _]) k69_36 rfl rfl ?_
        refine wp_iinc 1 (L1 := [_, _, _, _]) k69_37 rfl (by decide) rfl ?_
        refine wp_goto k69_40 ?_
        rw [i_succ, if_pos rfl]
        exact ih (i + 1) _ (by omega)
  refine ev_qe P69 rfl ?_
  refine wp_iconst 0 k69_0 (by decide) ?_
  refine wp_istore_n (L1 := [_, _, _, _]) k69_1 rfl rfl ?_
  refine wp_iconst 0 k69_2 (by decide) ?_
  refine wp_istore_n (L1 := [_, _, _, _]) k69_3 rfl rfl ?_
  exact key 6 0 0 rfl
end N_a
