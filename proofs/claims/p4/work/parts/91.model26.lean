section M26
/-! ===== the reference: who knows at w; a round; a whisper ===== -/
def kwB (V : hV) (w : Nat) (set : Int32) (p : Nat) : Bool := decide (alk V p w &&& (set ^^^ -1) = 0 ∨ alk V p w &&& set = 0)
def kwF (V : hV) (w : Nat) (set : Int32) : Nat → Int32
  | 0 => 0
  | p + 1 => kwF V w set p ||| ((if kwB V w set p = true then 1 else 0) <<< (Int32.ofNat p &&& 31))
def roF (V : hV) (n : Nat) (set k : Int32) : Nat → Int32
  | 0 => 0
  | w + 1 => roF V n set k w ||| ((if isl V w = true ∧ kwF V w set n = k then 1 else 0) <<< (Int32.ofNat w &&& 31))
def roV (V : hV) (n rw : Nat) (fact : Int32) : hV := acV V (roF V n (wof fact) (kwF V rw (wof fact) n) 32) 4 0
def whF (A : hV) (x set : Int32) : Nat → Int32 × hV
  | 0 => (0, A)
  | p + 1 => if hasB set (Int32.ofNat p) = true then ((whF A x set p).1 + pbF (whF A x set p).2 p x 32, paV (whF A x set p).2 p x) else ((whF A x set p).1 + 0, (whF A x set p).2)
theorem l_knowersOf {S : ww_S} {sh : List mm_C} {V : hV} (hM : MS sh) {n : Nat} (hn : V.1 313 1 = Int32.ofNat n) (h5 : n ≤ 5) {w : Nat} (hw : w < 32) {set : Int32} : ∀ (m i : Nat) (y : Option Value), m + i = n → WP S 4 mm_m246 5 [some (.ref 312), some (.int (Int32.ofNat w)), some (.int set), some (.int (kwF V w set i)), some (.int (Int32.ofNat i)), y] [] (hH sh V) (qe (.inl (some (.int (kwF V w set n)))) (hH sh V)) := by
  intro m
  induction m with
  | zero =>
    intro i y hi
    have hi : i = n := by omega
    subst hi
    have EQ := e_persons (S := S) (V := V) hM
    rw [hn] at EQ
    refine wp_iload k246_5 rfl rfl ?_
    refine wp_aload_n k246_7 rfl rfl ?_
    refine wp_cv (st2 := [_]) k246_8 EQ (by decide) rfl rfl rfl rfl (by decide) hM.o (by decide) ?_
    refine wp_if_icmp_ge_T k246_11 (i_nlt (by omega) (by omega)) ?_
    refine wp_iload_n k246_59 rfl rfl ?_
    exact wp_reti k246_60 rfl rfl rfl
  | succ m ih =>
    intro i y hi
    have EQ := e_persons (S := S) (V := V) hM
    rw [hn] at EQ
    by_cases c1 : alk V i w &&& (set ^^^ -1) = 0
    · skip
      refine wp_iload k246_5 rfl rfl ?_
      refine wp_aload_n k246_7 rfl rfl ?_
      refine wp_cv (st2 := [_]) k246_8 EQ (by decide) rfl rfl rfl rfl (by decide) hM.o (by decide) ?_
      refine wp_if_icmp_ge_F k246_11 (i_lt (by omega) (by omega)) ?_
      refine wp_aload_n k246_14 rfl rfl ?_
      refine wp_iload k246_15 rfl rfl ?_
      refine wp_iload_n k246_17 rfl rfl ?_
      refine wp_cv (st2 := []) k246_18 (e_alikeTo hM (p := i) (w := w) (by omega) hw) (by decide) rfl rfl rfl rfl (by decide) hM.o (by decide) ?_
      refine wp_istore (L1 := [_, _, _, _, _, _]) k246_21 rfl rfl ?_
      refine wp_iload_n k246_23 rfl rfl ?_
      refine wp_iload k246_24 rfl rfl ?_
      refine wp_iload_n k246_26 rfl rfl ?_
      refine wp_iconst (-1) k246_27 (by decide) ?_
      refine wp_ixor k246_28 ?_
      refine wp_iand k246_29 ?_
      refine wp_if_eq_T k246_30 c1 ?_
      refine wp_iconst 1 k246_40 (by decide) ?_
      refine wp_goto k246_41 ?_
      refine wp_cs (st2 := [_]) k246_45 (e_truth) (by decide) rfl rfl rfl (by decide) ?_
      refine wp_iload k246_48 rfl rfl ?_
      refine wp_ishl k246_50 ?_
      refine wp_ior k246_51 ?_
      refine wp_istore_n (L1 := [_, _, _, _, _, _]) k246_52 rfl rfl ?_
      refine wp_iinc (L1 := [_, _, _, _, _, _]) 1 k246_53 rfl (by decide) rfl ?_
      refine wp_goto k246_56 ?_
      refine wp_eq (ih (i + 1) (some (.int (alk V i w))) (by omega)) ?_ rfl rfl
      rw [show kwF V w set (i + 1) = kwF V w set i ||| ((if kwB V w set i = true then 1 else 0) <<< (Int32.ofNat i &&& 31)) from rfl, if_pos (show kwB V w set i = true from decide_eq_true (Or.inl c1)), i_succ]
      rfl
    · by_cases c2 : alk V i w &&& set = 0
      · skip
        refine wp_iload k246_5 rfl rfl ?_
        refine wp_aload_n k246_7 rfl rfl ?_
        refine wp_cv (st2 := [_]) k246_8 EQ (by decide) rfl rfl rfl rfl (by decide) hM.o (by decide) ?_
        refine wp_if_icmp_ge_F k246_11 (i_lt (by omega) (by omega)) ?_
        refine wp_aload_n k246_14 rfl rfl ?_
        refine wp_iload k246_15 rfl rfl ?_
        refine wp_iload_n k246_17 rfl rfl ?_
        refine wp_cv (st2 := []) k246_18 (e_alikeTo hM (p := i) (w := w) (by omega) hw) (by decide) rfl rfl rfl rfl (by decide) hM.o (by decide) ?_
        refine wp_istore (L1 := [_, _, _, _, _, _]) k246_21 rfl rfl ?_
        refine wp_iload_n k246_23 rfl rfl ?_
        refine wp_iload k246_24 rfl rfl ?_
        refine wp_iload_n k246_26 rfl rfl ?_
        refine wp_iconst (-1) k246_27 (by decide) ?_
        refine wp_ixor k246_28 ?_
        refine wp_iand k246_29 ?_
        refine wp_if_eq_F k246_30 c1 ?_
        refine wp_iload k246_33 rfl rfl ?_
        refine wp_iload_n k246_35 rfl rfl ?_
        refine wp_iand k246_36 ?_
        refine wp_if_ne_F k246_37 c2 ?_
        refine wp_iconst 1 k246_40 (by decide) ?_
        refine wp_goto k246_41 ?_
        refine wp_cs (st2 := [_]) k246_45 (e_truth) (by decide) rfl rfl rfl (by decide) ?_
        refine wp_iload k246_48 rfl rfl ?_
        refine wp_ishl k246_50 ?_
        refine wp_ior k246_51 ?_
        refine wp_istore_n (L1 := [_, _, _, _, _, _]) k246_52 rfl rfl ?_
        refine wp_iinc (L1 := [_, _, _, _, _, _]) 1 k246_53 rfl (by decide) rfl ?_
        refine wp_goto k246_56 ?_
        refine wp_eq (ih (i + 1) (some (.int (alk V i w))) (by omega)) ?_ rfl rfl
        rw [show kwF V w set (i + 1) = kwF V w set i ||| ((if kwB V w set i = true then 1 else 0) <<< (Int32.ofNat i &&& 31)) from rfl, if_pos (show kwB V w set i = true from decide_eq_true (Or.inr c2)), i_succ]
        rfl
      · skip
        refine wp_iload k246_5 rfl rfl ?_
        refine wp_aload_n k246_7 rfl rfl ?_
        refine wp_cv (st2 := [_]) k246_8 EQ (by decide) rfl rfl rfl rfl (by decide) hM.o (by decide) ?_
        refine wp_if_icmp_ge_F k246_11 (i_lt (by omega) (by omega)) ?_
        refine wp_aload_n k246_14 rfl rfl ?_
        refine wp_iload k246_15 rfl rfl ?_
        refine wp_iload_n k246_17 rfl rfl ?_
        refine wp_cv (st2 := []) k246_18 (e_alikeTo hM (p := i) (w := w) (by omega) hw) (by decide) rfl rfl rfl rfl (by decide) hM.o (by decide) ?_
        refine wp_istore (L1 := [_, _, _, _, _, _]) k246_21 rfl rfl ?_
        refine wp_iload_n k246_23 rfl rfl ?_
        refine wp_iload k246_24 rfl rfl ?_
        refine wp_iload_n k246_26 rfl rfl ?_
        refine wp_iconst (-1) k246_27 (by decide) ?_
        refine wp_ixor k246_28 ?_
        refine wp_iand k246_29 ?_
        refine wp_if_eq_F k246_30 c1 ?_
        refine wp_iload k246_33 rfl rfl ?_
        refine wp_iload_n k246_35 rfl rfl ?_
        refine wp_iand k246_36 ?_
        refine wp_if_ne_T k246_37 c2 ?_
        refine wp_iconst 0 k246_44 (by decide) ?_
        refine wp_cs (st2 := [_]) k246_45 (e_truth) (by decide) rfl rfl rfl (by decide) ?_
        refine wp_iload k246_48 rfl rfl ?_
        refine wp_ishl k246_50 ?_
        refine wp_ior k246_51 ?_
        refine wp_istore_n (L1 := [_, _, _, _, _, _]) k246_52 rfl rfl ?_
        refine wp_iinc (L1 := [_, _, _, _, _, _]) 1 k246_53 rfl (by decide) rfl ?_
        refine wp_goto k246_56 ?_
        refine wp_eq (ih (i + 1) (some (.int (alk V i w))) (by omega)) ?_ rfl rfl
        rw [show kwF V w set (i + 1) = kwF V w set i ||| ((if kwB V w set i = true then 1 else 0) <<< (Int32.ofNat i &&& 31)) from rfl, if_neg (show ¬ kwB V w set i = true from fun z => (of_decide_eq_true z).elim c1 c2), i_succ]
        rfl
theorem e_knowersOf {S : ww_S} {sh : List mm_C} {V : hV} (hM : MS sh) {n : Nat} (hn : V.1 313 1 = Int32.ofNat n) (h5 : n ≤ 5) {w : Nat} (hw : w < 32) {set : Int32} : EV S 5 246 [.ref 312, .int (Int32.ofNat w), .int set] (hH sh V) (.inl (some (.int (kwF V w set n)))) (hH sh V) := by
  refine ev_qe P246 rfl ?_
  refine wp_iconst 0 k246_0 (by decide) ?_
  refine wp_istore_n (L1 := [_, _, _, _, _, _]) k246_1 rfl rfl ?_
  refine wp_iconst 0 k246_2 (by decide) ?_
  refine wp_istore (L1 := [_, _, _, _, _, _]) k246_3 rfl rfl ?_
  exact l_knowersOf hM hn h5 hw n 0 none (by omega)
end M26
