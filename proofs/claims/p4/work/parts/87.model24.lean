section M24
/-! ===== the reference: the log, a set parts what a person thinks of ===== -/
theorem noH_60 (V : hV) : noH V 60 = V := by
  unfold noH
  rw [show (fun j => if 16 + 60 ≤ j ∧ j ≤ 75 then some (V.1 313 (j - 3)) else none) = (fun _ : Nat => (none : Option Int32)) from funext fun j => if_neg (by omega)]
  exact ovr_0 V 313
def noW (V : hV) (a b c : Int32) : hV := up (up (up (up (noH V 3) 313 16 a) 313 17 b) 313 18 c) 313 6 (if V.1 313 6 + 1 < 20 then V.1 313 6 + 1 else 20)
def pbF (V : hV) (p : Nat) (set : Int32) : Nat → Int32
  | 0 => 0
  | w + 1 => pbF V p set w + (if hasB set (Int32.ofNat w) = true then Int32.ofNat (cnt (alk V p w &&& (set ^^^ -1))) else 0)
def paH (V : hV) (p : Nat) (set : Int32) (w : Nat) : hV := ovr V 313 (fun j => if 160 + 32 * p ≤ j ∧ j < 160 + 32 * p + w then some (V.1 313 j &&& (if hasB set (Int32.ofNat (j - (160 + 32 * p))) = true then set else set ^^^ -1)) else none)
def paV (V : hV) (p : Nat) (set : Int32) : hV := grV (paH V p set 32) 6 (pbF V p set 32)
theorem e_notes {S : ww_S} {sh : List mm_C} {V : hV} (hM : MS sh) {a b c : Int32} : EV S 2 238 [.ref 312, .int a, .int b, .int c] (hH sh V) (.inl none) (hH sh (noW V a b c)) := by
  have E38 := fun {Q} => l_notes (S := S) (V := V) hM (a := a) (b := b) (c := c) (Q := Q) 57 59 rfl (by decide)
  rw [noH_60] at E38
  refine ev_qe (D := 1) P238 rfl ?_
  refine wp_bipush 59 k238_0 (by decide) ?_
  refine wp_istore (L1 := [_, _, _, _, _]) k238_2 rfl rfl ?_
  refine E38 ?_
  refine wp_aload_n k238_38 rfl rfl ?_
  refine wp_getR k238_39 (by decide) hM.o rfl ?_
  refine wp_bipush 16 k238_42 (by decide) ?_
  refine wp_iload_n k238_44 rfl rfl ?_
  refine wp_iastore k238_45 (by decide) (hM.a313) (by decide) 16 (by decide) ?_
  refine wp_aload_n k238_46 rfl rfl ?_
  refine wp_getR k238_47 (by decide) hM.o rfl ?_
  refine wp_bipush 17 k238_50 (by decide) ?_
  refine wp_iload_n k238_52 rfl rfl ?_
  refine wp_iastore k238_53 (by decide) (hM.a313) (by decide) 17 (by decide) ?_
  refine wp_aload_n k238_54 rfl rfl ?_
  refine wp_getR k238_55 (by decide) hM.o rfl ?_
  refine wp_bipush 18 k238_58 (by decide) ?_
  refine wp_iload_n k238_60 rfl rfl ?_
  refine wp_iastore k238_61 (by decide) (hM.a313) (by decide) 18 (by decide) ?_
  refine wp_aload_n k238_62 rfl rfl ?_
  refine wp_getR k238_63 (by decide) hM.o rfl ?_
  refine wp_bipush 6 k238_66 (by decide) ?_
  refine wp_bipush 20 k238_68 (by decide) ?_
  refine wp_aload_n k238_70 rfl rfl ?_
  refine wp_getR k238_71 (by decide) hM.o rfl ?_
  refine wp_bipush 6 k238_74 (by decide) ?_
  refine wp_iaload k238_76 (by decide) (hM.a313) (by decide) 6 (by decide) (V.1 313 6) (by rw [up_ne _ _ (Or.inr (by decide)), up_ne _ _ (Or.inr (by decide)), up_ne _ _ (Or.inr (by decide))]; exact ovr_none V (if_neg (by omega))) ?_
  refine wp_iconst 1 k238_77 (by decide) ?_
  refine wp_iadd k238_78 ?_
  refine wp_min k238_79 rfl ?_
  refine wp_iastore k238_82 (by decide) (hM.a313) (by decide) 6 (by decide) ?_
  exact wp_retn k238_83 rfl rfl
theorem l_partedBy {S : ww_S} {sh : List mm_C} {V : hV} (hM : MS sh) {p : Nat} (hp : p < 5) {set : Int32} : ∀ m i : Nat, m + i = 32 → WP S 4 mm_m242 5 [some (.ref 312), some (.int (Int32.ofNat p)), some (.int set), some (.int (pbF V p set i)), some (.int (Int32.ofNat i))] [] (hH sh V) (qe (.inl (some (.int (pbF V p set 32)))) (hH sh V)) := by
  intro m
  induction m with
  | zero =>
    intro i hi
    have hi : i = 32 := by omega
    subst hi
    refine wp_iload k242_5 rfl rfl ?_
    refine wp_bipush 32 k242_7 (by decide) ?_
    refine wp_if_icmp_ge_T k242_9 (i_nlt (k := 32) (n := 32) (by decide) (by decide)) ?_
    refine wp_iload_n k242_48 rfl rfl ?_
    exact wp_reti k242_49 rfl rfl rfl
  | succ m ih =>
    intro i hi
    by_cases hb : hasB set (Int32.ofNat i) = true
    · refine wp_iload k242_5 rfl rfl ?_
      refine wp_bipush 32 k242_7 (by decide) ?_
      refine wp_if_icmp_ge_F k242_9 (i_lt (n := 32) (by omega) (by decide)) ?_
      refine wp_iload_n k242_12 rfl rfl ?_
      refine wp_iload_n k242_13 rfl rfl ?_
      refine wp_iload k242_14 rfl rfl ?_
      refine wp_cs (st2 := [_]) k242_16 (e_has) (by decide) rfl rfl rfl (by decide) ?_
      refine wp_if_eq_F k242_19 (bI_n0.mpr hb) ?_
      refine wp_aload_n k242_22 rfl rfl ?_
      refine wp_iload_n k242_23 rfl rfl ?_
      refine wp_iload k242_24 rfl rfl ?_
      refine wp_cv (st2 := [_]) k242_26 (e_alikeTo hM (p := p) (w := i) hp (by omega)) (by decide) rfl rfl rfl rfl (by decide) hM.o (by decide) ?_
      refine wp_iload_n k242_29 rfl rfl ?_
      refine wp_iconst (-1) k242_30 (by decide) ?_
      refine wp_ixor k242_31 ?_
      refine wp_iand k242_32 ?_
      refine wp_cs (st2 := [_]) k242_33 (e_bits) (by decide) rfl rfl rfl (by decide) ?_
      refine wp_goto k242_36 ?_
      refine wp_iadd k242_40 ?_
      refine wp_istore_n (L1 := [_, _, _, _, _]) k242_41 rfl rfl ?_
      refine wp_iinc (L1 := [_, _, _, _, _]) 1 k242_42 rfl (by decide) rfl ?_
      refine wp_goto k242_45 ?_
      refine wp_eq (ih (i + 1) (by omega)) ?_ rfl rfl
      rw [show pbF V p set (i + 1) = pbF V p set i + (if hasB set (Int32.ofNat i) = true then Int32.ofNat (cnt (alk V p i &&& (set ^^^ -1))) else 0) from rfl, if_pos hb, i_succ]
    · refine wp_iload k242_5 rfl rfl ?_
      refine wp_bipush 32 k242_7 (by decide) ?_
      refine wp_if_icmp_ge_F k242_9 (i_lt (n := 32) (by omega) (by decide)) ?_
      refine wp_iload_n k242_12 rfl rfl ?_
      refine wp_iload_n k242_13 rfl rfl ?_
      refine wp_iload k242_14 rfl rfl ?_
      refine wp_cs (st2 := [_]) k242_16 (e_has) (by decide) rfl rfl rfl (by decide) ?_
      refine wp_if_eq_T k242_19 (bI_0.mpr (Bool.eq_false_iff.mpr hb)) ?_
      refine wp_iconst 0 k242_39 (by decide) ?_
      refine wp_iadd k242_40 ?_
      refine wp_istore_n (L1 := [_, _, _, _, _]) k242_41 rfl rfl ?_
      refine wp_iinc (L1 := [_, _, _, _, _]) 1 k242_42 rfl (by decide) rfl ?_
      refine wp_goto k242_45 ?_
      refine wp_eq (ih (i + 1) (by omega)) ?_ rfl rfl
      rw [show pbF V p set (i + 1) = pbF V p set i + (if hasB set (Int32.ofNat i) = true then Int32.ofNat (cnt (alk V p i &&& (set ^^^ -1))) else 0) from rfl, if_neg hb, i_succ]
theorem e_partedBy {S : ww_S} {sh : List mm_C} {V : hV} (hM : MS sh) {p : Nat} (hp : p < 5) {set : Int32} : EV S 5 242 [.ref 312, .int (Int32.ofNat p), .int set] (hH sh V) (.inl (some (.int (pbF V p set 32)))) (hH sh V) := by
  refine ev_qe P242 rfl ?_
  refine wp_iconst 0 k242_0 (by decide) ?_
  refine wp_istore_n (L1 := [_, _, _, _, _]) k242_1 rfl rfl ?_
  refine wp_iconst 0 k242_2 (by decide) ?_
  refine wp_istore (L1 := [_, _, _, _, _]) k242_3 rfl rfl ?_
  exact l_partedBy hM hp 32 0 rfl
theorem l_parts {S : ww_S} {sh : List mm_C} {V : hV} (hM : MS sh) {p : Nat} (hp : p < 5) {set n : Int32} {Q} : ∀ m i : Nat, m + i = 32 → WP S 6 mm_m243 58 [some (.ref 312), some (.int (Int32.ofNat p)), some (.int set), some (.int n), some (.int (Int32.ofNat 32))] [] (hH sh (paH V p set 32)) Q → WP S 6 mm_m243 10 [some (.ref 312), some (.int (Int32.ofNat p)), some (.int set), some (.int n), some (.int (Int32.ofNat i))] [] (hH sh (paH V p set i)) Q := by
  intro m
  induction m with
  | zero =>
    intro i hi E
    have hi : i = 32 := by omega
    subst hi
    refine wp_iload k243_10 rfl rfl ?_
    refine wp_bipush 32 k243_12 (by decide) ?_
    refine wp_if_icmp_ge_T k243_14 (i_nlt (k := 32) (n := 32) (by decide) (by decide)) ?_
    exact E
  | succ m ih =>
    intro i hi E
    have hv : (paH V p set i).1 313 (160 + (32 * p) + i) = V.1 313 (160 + 32 * p + i) := ovr_none V (if_neg (by omega))
    have hn : ∀ y, y = (if hasB set (Int32.ofNat i) = true then set else set ^^^ -1) → up (paH V p set i) 313 (160 + (32 * p) + i) (V.1 313 (160 + 32 * p + i) &&& y) = paH V p set (i + 1) := by
      intro y hy
      unfold paH
      rw [ovr_up]
      congr 1
      funext j
      by_cases e : j = 160 + 32 * p + i
      · rw [if_pos e, if_pos (show 160 + 32 * p ≤ j ∧ j < 160 + 32 * p + (i + 1) by omega), show j - (160 + 32 * p) = i by omega, hy, e]
      · rw [if_neg e]
        by_cases e2 : 160 + 32 * p ≤ j ∧ j < 160 + 32 * p + i
        · rw [if_pos e2, if_pos (show 160 + 32 * p ≤ j ∧ j < 160 + 32 * p + (i + 1) by omega)]
        · rw [if_neg e2, if_neg (show ¬ (160 + 32 * p ≤ j ∧ j < 160 + 32 * p + (i + 1)) by omega)]
    by_cases hb : hasB set (Int32.ofNat i) = true
    · refine wp_iload k243_10 rfl rfl ?_
      refine wp_bipush 32 k243_12 (by decide) ?_
      refine wp_if_icmp_ge_F k243_14 (i_lt (n := 32) (by omega) (by decide)) ?_
      refine wp_aload_n k243_17 rfl rfl ?_
      refine wp_getR k243_18 (by decide) hM.o rfl ?_
      refine wp_sipush 160 k243_21 (by decide) ?_
      refine wp_bipush 32 k243_24 (by decide) ?_
      refine wp_iload_n k243_26 rfl rfl ?_
      refine wp_imul k243_27 ?_
      refine wp_cast (show (32 : Int32) * Int32.ofNat (p) = Int32.ofNat (32 * p) from (Int32.ofNat_mul 32 _).symm) ?_
      refine wp_iadd k243_28 ?_
      refine wp_cast (show (160 : Int32) + Int32.ofNat (32 * p) = Int32.ofNat (160 + (32 * p)) from (Int32.ofNat_add 160 _).symm) ?_
      refine wp_iload k243_29 rfl rfl ?_
      refine wp_iadd k243_31 ?_
      refine wp_cast (i_add _ _) ?_
      refine wp_dup2 k243_32 rfl rfl ?_
      refine wp_iaload k243_33 (by decide) (hM.a313) (i_inO (by omega) (by decide)) ((160 + (32 * p)) + i) (i_un (by omega)) (V.1 313 (160 + 32 * p + i)) hv ?_
      refine wp_iload_n k243_34 rfl rfl ?_
      refine wp_iload k243_35 rfl rfl ?_
      refine wp_cs (st2 := [_, _, _]) k243_37 (e_has) (by decide) rfl rfl rfl (by decide) ?_
      refine wp_if_eq_F k243_40 (bI_n0.mpr hb) ?_
      refine wp_iload_n k243_43 rfl rfl ?_
      refine wp_goto k243_44 ?_
      refine wp_iand k243_50 ?_
      refine wp_iastore k243_51 (by decide) (hM.a313) (i_inO (by omega) (by decide)) ((160 + (32 * p)) + i) (i_un (by omega)) ?_
      refine wp_iinc (L1 := [_, _, _, _, _]) 1 k243_52 rfl (by decide) rfl ?_
      refine wp_goto k243_55 ?_
      refine wp_eq (ih (i + 1) (by omega) E) (by rw [i_succ]) rfl (congrArg (hH sh) (hn _ (if_pos hb).symm))
    · refine wp_iload k243_10 rfl rfl ?_
      refine wp_bipush 32 k243_12 (by decide) ?_
      refine wp_if_icmp_ge_F k243_14 (i_lt (n := 32) (by omega) (by decide)) ?_
      refine wp_aload_n k243_17 rfl rfl ?_
      refine wp_getR k243_18 (by decide) hM.o rfl ?_
      refine wp_sipush 160 k243_21 (by decide) ?_
      refine wp_bipush 32 k243_24 (by decide) ?_
      refine wp_iload_n k243_26 rfl rfl ?_
      refine wp_imul k243_27 ?_
      refine wp_cast (show (32 : Int32) * Int32.ofNat (p) = Int32.ofNat (32 * p) from (Int32.ofNat_mul 32 _).symm) ?_
      refine wp_iadd k243_28 ?_
      refine wp_cast (show (160 : Int32) + Int32.ofNat (32 * p) = Int32.ofNat (160 + (32 * p)) from (Int32.ofNat_add 160 _).symm) ?_
      refine wp_iload k243_29 rfl rfl ?_
      refine wp_iadd k243_31 ?_
      refine wp_cast (i_add _ _) ?_
      refine wp_dup2 k243_32 rfl rfl ?_
      refine wp_iaload k243_33 (by decide) (hM.a313) (i_inO (by omega) (by decide)) ((160 + (32 * p)) + i) (i_un (by omega)) (V.1 313 (160 + 32 * p + i)) hv ?_
      refine wp_iload_n k243_34 rfl rfl ?_
      refine wp_iload k243_35 rfl rfl ?_
      refine wp_cs (st2 := [_, _, _]) k243_37 (e_has) (by decide) rfl rfl rfl (by decide) ?_
      refine wp_if_eq_T k243_40 (bI_0.mpr (Bool.eq_false_iff.mpr hb)) ?_
      refine wp_iload_n k243_47 rfl rfl ?_
      refine wp_iconst (-1) k243_48 (by decide) ?_
      refine wp_ixor k243_49 ?_
      refine wp_iand k243_50 ?_
      refine wp_iastore k243_51 (by decide) (hM.a313) (i_inO (by omega) (by decide)) ((160 + (32 * p)) + i) (i_un (by omega)) ?_
      refine wp_iinc (L1 := [_, _, _, _, _]) 1 k243_52 rfl (by decide) rfl ?_
      refine wp_goto k243_55 ?_
      refine wp_eq (ih (i + 1) (by omega) E) (by rw [i_succ]) rfl (congrArg (hH sh) (hn _ (if_neg hb).symm))
theorem e_parts {S : ww_S} {sh : List mm_C} {V : hV} (hM : MS sh) {p : Nat} (hp : p < 5) {set : Int32} : EV S 7 243 [.ref 312, .int (Int32.ofNat p), .int set] (hH sh V) (.inl (some (.int (pbF V p set 32)))) (hH sh (paV V p set)) := by
  have E := fun {Q} => l_parts (S := S) (V := V) hM hp (set := set) (n := pbF V p set 32) (Q := Q) 32 0 rfl
  rw [show paH V p set 0 = V by unfold paH; rw [show (fun j => if 160 + 32 * p ≤ j ∧ j < 160 + 32 * p + 0 then some (V.1 313 j &&& (if hasB set (Int32.ofNat (j - (160 + 32 * p))) = true then set else set ^^^ -1)) else none) = (fun _ : Nat => (none : Option Int32)) from funext fun j => if_neg (by omega)]; exact ovr_0 V 313] at E
  refine ev_qe P243 rfl ?_
  refine wp_aload_n k243_0 rfl rfl ?_
  refine wp_iload_n k243_1 rfl rfl ?_
  refine wp_iload_n k243_2 rfl rfl ?_
  refine wp_cv (st2 := []) k243_3 (e_partedBy hM hp) (by decide) rfl rfl rfl rfl (by decide) hM.o (by decide) ?_
  refine wp_istore_n (L1 := [_, _, _, _, _]) k243_6 rfl rfl ?_
  refine wp_iconst 0 k243_7 (by decide) ?_
  refine wp_istore (L1 := [_, _, _, _, _]) k243_8 rfl rfl ?_
  refine E ?_
  refine wp_aload_n k243_58 rfl rfl ?_
  refine wp_bipush 6 k243_59 (by decide) ?_
  refine wp_iload_n k243_61 rfl rfl ?_
  refine wp_cvn (st2 := []) k243_62 (e_grows hM (k := 6) (by decide)) (by decide) rfl rfl rfl rfl (by decide) hM.o (by decide) ?_
  refine wp_iload_n k243_65 rfl rfl ?_
  exact wp_reti k243_66 rfl rfl rfl
end M24
