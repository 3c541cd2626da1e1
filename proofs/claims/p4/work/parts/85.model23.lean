section M23
/-! ===== the reference: counts, the log, a set is ruled out ===== -/
def grV (V : hV) (k : Nat) (x : Int32) : hV := up V 313 (8 + k) (V.1 313 (8 + k) + x)
theorem i_dec (m : Nat) : Int32.ofNat (m + 1) + -1 = Int32.ofNat m := by
  rw [← i_succ, Int32.add_assoc, show (1 : Int32) + -1 = 0 from rfl, Int32.add_zero]
def noH (V : hV) (i : Nat) : hV := ovr V 313 (fun j => if 16 + i ≤ j ∧ j ≤ 75 then some (V.1 313 (j - 3)) else none)
def ruV (V : hV) (x : Int32) : hV := grV (up V 313 2 (V.1 313 2 &&& x)) 5 (Int32.ofNat (cnt (V.1 313 2 &&& (x ^^^ -1))))
theorem e_grows {S : ww_S} {sh : List mm_C} {V : hV} (hM : MS sh) {k : Nat} (hk : k ≤ 100) {x : Int32} : EV S 1 237 [.ref 312, .int (Int32.ofNat k), .int x] (hH sh V) (.inl none) (hH sh (grV V k x)) := by
  refine ev_qe P237 rfl ?_
  refine wp_aload_n k237_0 rfl rfl ?_
  refine wp_getR k237_1 (by decide) hM.o rfl ?_
  refine wp_bipush 8 k237_4 (by decide) ?_
  refine wp_iload_n k237_6 rfl rfl ?_
  refine wp_iadd k237_7 ?_
  refine wp_cast (show (8 : Int32) + Int32.ofNat (k) = Int32.ofNat (8 + k) from (Int32.ofNat_add 8 _).symm) ?_
  refine wp_dup2 k237_8 rfl rfl ?_
  refine wp_iaload k237_9 (by decide) (hM.a313) (i_inO (by omega) (by decide)) (8 + k) (i_un (by omega)) _ rfl ?_
  refine wp_iload_n k237_10 rfl rfl ?_
  refine wp_iadd k237_11 ?_
  refine wp_iastore k237_12 (by decide) (hM.a313) (i_inO (by omega) (by decide)) (8 + k) (i_un (by omega)) ?_
  exact wp_retn k237_13 rfl rfl
theorem e_rules {S : ww_S} {sh : List mm_C} {V : hV} (hM : MS sh) {x : Int32} : EV S 2 239 [.ref 312, .int x] (hH sh V) (.inl (some (.int (V.1 313 2 &&& (x ^^^ -1))))) (hH sh (ruV V x)) := by
  refine ev_qe P239 rfl ?_
  refine wp_aload_n k239_0 rfl rfl ?_
  refine wp_getR k239_1 (by decide) hM.o rfl ?_
  refine wp_iconst 2 k239_4 (by decide) ?_
  refine wp_iaload k239_5 (by decide) (hM.a313) (by decide) 2 (by decide) _ rfl ?_
  refine wp_iload_n k239_6 rfl rfl ?_
  refine wp_iconst (-1) k239_7 (by decide) ?_
  refine wp_ixor k239_8 ?_
  refine wp_iand k239_9 ?_
  refine wp_istore_n (L1 := [_, _, _]) k239_10 rfl rfl ?_
  refine wp_aload_n k239_11 rfl rfl ?_
  refine wp_getR k239_12 (by decide) hM.o rfl ?_
  refine wp_iconst 2 k239_15 (by decide) ?_
  refine wp_dup2 k239_16 rfl rfl ?_
  refine wp_iaload k239_17 (by decide) (hM.a313) (by decide) 2 (by decide) _ rfl ?_
  refine wp_iload_n k239_18 rfl rfl ?_
  refine wp_iand k239_19 ?_
  refine wp_iastore k239_20 (by decide) (hM.a313) (by decide) 2 (by decide) ?_
  refine wp_aload_n k239_21 rfl rfl ?_
  refine wp_iconst 5 k239_22 (by decide) ?_
  refine wp_iload_n k239_23 rfl rfl ?_
  refine wp_cs (st2 := [_, _]) k239_24 (e_bits) (by decide) rfl rfl rfl (by decide) ?_
  refine wp_cvn (st2 := []) k239_27 (e_grows hM (k := 5) (by decide)) (by decide) rfl rfl rfl rfl (by decide) hM.o (by decide) ?_
  refine wp_iload_n k239_30 rfl rfl ?_
  exact wp_reti k239_31 rfl rfl rfl
theorem l_notes {S : ww_S} {sh : List mm_C} {V : hV} (hM : MS sh) {a b c : Int32} {Q} : ∀ m i : Nat, i = m + 2 → i ≤ 59 → WP S 1 mm_m238 38 [some (.ref 312), some (.int a), some (.int b), some (.int c), some (.int (Int32.ofNat 2))] [] (hH sh (noH V 3)) Q → WP S 1 mm_m238 4 [some (.ref 312), some (.int a), some (.int b), some (.int c), some (.int (Int32.ofNat i))] [] (hH sh (noH V (i + 1))) Q := by
  intro m
  induction m with
  | zero =>
    intro i hi h5 E
    subst hi
    refine wp_iload k238_4 rfl rfl ?_
    refine wp_iconst 3 k238_6 (by decide) ?_
    refine wp_if_icmp_lt_T k238_7 (i_lt (k := 2) (n := 3) (by decide) (by decide)) ?_
    exact E
  | succ m ih =>
    intro i hi h5 E
    have hs3 : Int32.ofNat (16 + i) - 3 = Int32.ofNat (13 + i) := by
      rw [show (3 : Int32) = Int32.ofNat 3 from rfl, ← Int32.ofNat_sub _ _ (by omega)]
      congr 1
      omega
    have hv : (noH V (i + 1)).1 313 (13 + i) = V.1 313 (13 + i) := ovr_none V (if_neg (by omega))
    refine wp_iload k238_4 rfl rfl ?_
    refine wp_iconst 3 k238_6 (by decide) ?_
    refine wp_if_icmp_lt_F k238_7 (i_nlt (n := 3) (by omega) (by omega)) ?_
    refine wp_aload_n k238_10 rfl rfl ?_
    refine wp_getR k238_11 (by decide) hM.o rfl ?_
    refine wp_bipush 16 k238_14 (by decide) ?_
    refine wp_iload k238_16 rfl rfl ?_
    refine wp_iadd k238_18 ?_
    refine wp_cast (show (16 : Int32) + Int32.ofNat (i) = Int32.ofNat (16 + i) from (Int32.ofNat_add 16 _).symm) ?_
    refine wp_aload_n k238_19 rfl rfl ?_
    refine wp_getR k238_20 (by decide) hM.o rfl ?_
    refine wp_bipush 16 k238_23 (by decide) ?_
    refine wp_iload k238_25 rfl rfl ?_
    refine wp_iadd k238_27 ?_
    refine wp_cast (show (16 : Int32) + Int32.ofNat (i) = Int32.ofNat (16 + i) from (Int32.ofNat_add 16 _).symm) ?_
    refine wp_iconst 3 k238_28 (by decide) ?_
    refine wp_isub k238_29 ?_
    refine wp_iaload k238_30 (by decide) (hM.a313) (by rw [hs3]; exact i_inO (by omega) (by decide)) (13 + i) (by rw [hs3]; exact i_un (by omega)) (V.1 313 (13 + i)) hv ?_
    refine wp_iastore k238_31 (by decide) (hM.a313) (i_inO (by omega) (by decide)) (16 + i) (i_un (by omega)) ?_
    refine wp_iinc (L1 := [_, _, _, _, _]) (-1) k238_32 rfl (by decide) rfl ?_
    refine wp_goto k238_35 ?_
    refine wp_eq (ih (i - 1) (by omega) (by omega) E) (by rw [show i = i - 1 + 1 by omega, i_dec]; rfl) rfl (congrArg (hH sh) ?_)
    rw [show i - 1 + 1 = i by omega]
    unfold noH
    rw [ovr_up]
    congr 1
    funext j
    by_cases e : j = 16 + i
    · rw [if_pos e, if_pos (by omega), show j - 3 = 13 + i by omega]
    · rw [if_neg e]
      by_cases e2 : 16 + (i + 1) ≤ j ∧ j ≤ 75
      · rw [if_pos e2, if_pos (by omega)]
      · rw [if_neg e2, if_neg (by omega)]
end M23
