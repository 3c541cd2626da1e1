section M8
/-! ===== the reference: known names, nodes made ===== -/
theorem e_nameP {S : ww_S} {sh : List mm_C} {V : hV} {T : hP} (hM : MS sh) {f : Nat → Int32} {l : Nat} (hT : TX V f l) (ha : T.1 ≤ 1000) {G : Nat → Int32} (hg : V.1 313 = G) {np : Nat} (hnp : G 1 = Int32.ofNat np) (h5 : np ≤ 5) : EV S 7 211 [.ref 312, .int 1] (hH sh (pp V T)) (.inl (some (.int (rnP G f l 115 np T).1))) (hH sh (pp V (rnP G f l 115 np T).2)) := by
  subst hg
  exact e_readsNameP hM hT ha hnp h5
theorem e_nameF {S : ww_S} {sh : List mm_C} {V : hV} {T : hP} (hM : MS sh) {f : Nat → Int32} {l : Nat} (hT : TX V f l) (ha : T.1 ≤ 1000) {G : Nat → Int32} (hg : V.1 313 = G) {nf : Nat} (hnf : G 0 = Int32.ofNat nf) (h5 : nf ≤ 5) : EV S 7 211 [.ref 312, .int 0] (hH sh (pp V T)) (.inl (some (.int (rnP G f l 80 nf T).1))) (hH sh (pp V (rnP G f l 80 nf T).2)) := by
  subst hg
  exact e_readsNameF hM hT ha hnf h5
theorem e_knownP {S : ww_S} {sh : List mm_C} {V : hV} {T : hP} (hM : MS sh) {f : Nat → Int32} {l : Nat} (hT : TX V f l) (ha : T.1 ≤ 1000) {G : Nat → Int32} (hg : V.1 313 = G) {np : Nat} (hnp : G 1 = Int32.ofNat np) (h5 : np ≤ 5) : EV S 8 212 [.ref 312, .int 1] (hH sh (pp V T)) (.inl (some (.int (knP G f l 115 np T).1))) (hH sh (pp V (knP G f l 115 np T).2)) := by
  refine ev_qe P212 rfl ?_
  refine wp_aload_n k212_0 rfl rfl ?_
  refine wp_iload_n k212_1 rfl rfl ?_
  refine wp_cv (st2 := []) k212_2 (e_nameP (T := T) hM hT ha hg hnp h5) (by decide) rfl rfl rfl rfl (by decide) hM.o (by decide) ?_
  refine wp_istore_n (L1 := [_, _, _]) k212_5 rfl rfl ?_
  refine wp_aload_n k212_6 rfl rfl ?_
  refine wp_iload_n k212_7 rfl rfl ?_
  refine wp_iconst (-1) k212_8 (by decide) ?_
  refine wp_if_icmp_eq k212_9 (fun c9 => ?_) (fun c9 => ?_)
  · refine wp_iconst 0 k212_16 (by decide) ?_
    refine wp_iconst 2 k212_17 (by decide) ?_
    refine wp_cvn (st2 := []) k212_18 (e_must hM) (by decide) rfl rfl rfl rfl (by decide) hM.o (by decide) ?_
    refine wp_aload_n k212_21 rfl rfl ?_
    refine wp_getI k212_22 (by decide) hM.o rfl ((muP 0 2 (rnP G f l 115 np T).2).2.2.2.1) rfl ?_
    refine wp_if_ne k212_25 (fun c25 => ?_) (fun c25 => ?_)
    · refine wp_iconst 0 k212_32 (by decide) ?_
      have hR : knP G f l 115 np T = (0, muP 0 2 (rnP G f l 115 np T).2) := by
        unfold knP
        rw [if_pos c9, if_neg c25]
      exact wp_reti k212_33 rfl (by rw [hR]) (by rw [hR]; rfl)
    · refine wp_iload_n k212_28 rfl rfl ?_
      refine wp_goto k212_29 ?_
      have hR : knP G f l 115 np T = ((rnP G f l 115 np T).1, muP 0 2 (rnP G f l 115 np T).2) := by
        unfold knP
        rw [if_pos c9, if_pos c25]
      exact wp_reti k212_33 rfl (by rw [hR]) (by rw [hR]; rfl)
  · refine wp_iconst 1 k212_12 (by decide) ?_
    refine wp_goto k212_13 ?_
    refine wp_iconst 2 k212_17 (by decide) ?_
    refine wp_cvn (st2 := []) k212_18 (e_must hM) (by decide) rfl rfl rfl rfl (by decide) hM.o (by decide) ?_
    refine wp_aload_n k212_21 rfl rfl ?_
    refine wp_getI k212_22 (by decide) hM.o rfl ((muP 1 2 (rnP G f l 115 np T).2).2.2.2.1) rfl ?_
    refine wp_if_ne k212_25 (fun c25 => ?_) (fun c25 => ?_)
    · refine wp_iconst 0 k212_32 (by decide) ?_
      have hR : knP G f l 115 np T = (0, muP 1 2 (rnP G f l 115 np T).2) := by
        unfold knP
        rw [if_neg c9, if_neg c25]
      exact wp_reti k212_33 rfl (by rw [hR]) (by rw [hR]; rfl)
    · refine wp_iload_n k212_28 rfl rfl ?_
      refine wp_goto k212_29 ?_
      have hR : knP G f l 115 np T = ((rnP G f l 115 np T).1, muP 1 2 (rnP G f l 115 np T).2) := by
        unfold knP
        rw [if_neg c9, if_pos c25]
      exact wp_reti k212_33 rfl (by rw [hR]) (by rw [hR]; rfl)
theorem e_knownF {S : ww_S} {sh : List mm_C} {V : hV} {T : hP} (hM : MS sh) {f : Nat → Int32} {l : Nat} (hT : TX V f l) (ha : T.1 ≤ 1000) {G : Nat → Int32} (hg : V.1 313 = G) {nf : Nat} (hnf : G 0 = Int32.ofNat nf) (h5 : nf ≤ 5) : EV S 8 212 [.ref 312, .int 0] (hH sh (pp V T)) (.inl (some (.int (knP G f l 80 nf T).1))) (hH sh (pp V (knP G f l 80 nf T).2)) := by
  refine ev_qe P212 rfl ?_
  refine wp_aload_n k212_0 rfl rfl ?_
  refine wp_iload_n k212_1 rfl rfl ?_
  refine wp_cv (st2 := []) k212_2 (e_nameF (T := T) hM hT ha hg hnf h5) (by decide) rfl rfl rfl rfl (by decide) hM.o (by decide) ?_
  refine wp_istore_n (L1 := [_, _, _]) k212_5 rfl rfl ?_
  refine wp_aload_n k212_6 rfl rfl ?_
  refine wp_iload_n k212_7 rfl rfl ?_
  refine wp_iconst (-1) k212_8 (by decide) ?_
  refine wp_if_icmp_eq k212_9 (fun c9 => ?_) (fun c9 => ?_)
  · refine wp_iconst 0 k212_16 (by decide) ?_
    refine wp_iconst 2 k212_17 (by decide) ?_
    refine wp_cvn (st2 := []) k212_18 (e_must hM) (by decide) rfl rfl rfl rfl (by decide) hM.o (by decide) ?_
    refine wp_aload_n k212_21 rfl rfl ?_
    refine wp_getI k212_22 (by decide) hM.o rfl ((muP 0 2 (rnP G f l 80 nf T).2).2.2.2.1) rfl ?_
    refine wp_if_ne k212_25 (fun c25 => ?_) (fun c25 => ?_)
    · refine wp_iconst 0 k212_32 (by decide) ?_
      have hR : knP G f l 80 nf T = (0, muP 0 2 (rnP G f l 80 nf T).2) := by
        unfold knP
        rw [if_pos c9, if_neg c25]
      exact wp_reti k212_33 rfl (by rw [hR]) (by rw [hR]; rfl)
    · refine wp_iload_n k212_28 rfl rfl ?_
      refine wp_goto k212_29 ?_
      have hR : knP G f l 80 nf T = ((rnP G f l 80 nf T).1, muP 0 2 (rnP G f l 80 nf T).2) := by
        unfold knP
        rw [if_pos c9, if_pos c25]
      exact wp_reti k212_33 rfl (by rw [hR]) (by rw [hR]; rfl)
  · refine wp_iconst 1 k212_12 (by decide) ?_
    refine wp_goto k212_13 ?_
    refine wp_iconst 2 k212_17 (by decide) ?_
    refine wp_cvn (st2 := []) k212_18 (e_must hM) (by decide) rfl rfl rfl rfl (by decide) hM.o (by decide) ?_
    refine wp_aload_n k212_21 rfl rfl ?_
    refine wp_getI k212_22 (by decide) hM.o rfl ((muP 1 2 (rnP G f l 80 nf T).2).2.2.2.1) rfl ?_
    refine wp_if_ne k212_25 (fun c25 => ?_) (fun c25 => ?_)
    · refine wp_iconst 0 k212_32 (by decide) ?_
      have hR : knP G f l 80 nf T = (0, muP 1 2 (rnP G f l 80 nf T).2) := by
        unfold knP
        rw [if_neg c9, if_neg c25]
      exact wp_reti k212_33 rfl (by rw [hR]) (by rw [hR]; rfl)
    · refine wp_iload_n k212_28 rfl rfl ?_
      refine wp_goto k212_29 ?_
      have hR : knP G f l 80 nf T = ((rnP G f l 80 nf T).1, muP 1 2 (rnP G f l 80 nf T).2) := by
        unfold knP
        rw [if_neg c9, if_pos c25]
      exact wp_reti k212_33 rfl (by rw [hR]) (by rw [hR]; rfl)
def layG (G : Nat → Int32) (f : Nat → Int32) (l b w t n : Nat) (j : Nat) : Option Int32 := if j = t then some (Int32.ofNat w) else if t + 1 ≤ j ∧ j < t + 1 + n then some (byt f l (b + (j - t - 1))) else none
def layV (V : hV) (f : Nat → Int32) (l b w t : Nat) : hV := ovr V 313 (layG (V.1 313) f l b w t w)
theorem l_laysName {S : ww_S} {sh : List mm_C} {V : hV} {T : hP} (hM : MS sh) {f : Nat → Int32} {l : Nat} (hT : TX V f l) (hb : T.2.1 ≤ 3000) {t : Nat} (hw : T.2.2.1 ≤ 6) (ht : t + 10 ≤ 564) : ∀ (m i : Nat), m + i = T.2.2.1 → WP S 1 mm_m213 12 [some (.ref 312), some (.int (Int32.ofNat t)), some (.int (Int32.ofNat i))] [] (hH sh (pp (ovr V 313 (layG (V.1 313) f l T.2.1 T.2.2.1 t i)) T)) (qe (.inl none) (hH sh (pp (ovr V 313 (layG (V.1 313) f l T.2.1 T.2.2.1 t T.2.2.1)) T))) := by
  intro m
  induction m with
  | zero =>
    intro i hi
    have hi : i = T.2.2.1 := by omega
    subst hi
    refine wp_iload_n k213_12 rfl rfl ?_
    refine wp_aload_n k213_13 rfl rfl ?_
    refine wp_getI k213_14 (by decide) hM.o rfl (Int32.ofNat (T.2.2.1)) rfl ?_
    refine wp_if_icmp_ge_T k213_17 (i_nlt (by omega) (by omega)) ?_
    exact wp_retn k213_46 rfl rfl
  | succ m ih =>
    intro i hi
    refine wp_iload_n k213_12 rfl rfl ?_
    refine wp_aload_n k213_13 rfl rfl ?_
    refine wp_getI k213_14 (by decide) hM.o rfl (Int32.ofNat (T.2.2.1)) rfl ?_
    refine wp_if_icmp_ge_F k213_17 (i_lt (by omega) (by omega)) ?_
    refine wp_aload_n k213_20 rfl rfl ?_
    refine wp_getR k213_21 (by decide) hM.o rfl ?_
    refine wp_iload_n k213_24 rfl rfl ?_
    refine wp_iconst 1 k213_25 (by decide) ?_
    refine wp_iadd k213_26 ?_
    refine wp_cast (show Int32.ofNat (t) + (1 : Int32) = Int32.ofNat (t + 1) from (Int32.ofNat_add _ 1).symm) ?_
    refine wp_iload_n k213_27 rfl rfl ?_
    refine wp_iadd k213_28 ?_
    refine wp_cast (i_add _ _) ?_
    refine wp_aload_n k213_29 rfl rfl ?_
    refine wp_aload_n k213_30 rfl rfl ?_
    refine wp_getI k213_31 (by decide) hM.o rfl (Int32.ofNat (T.2.1)) rfl ?_
    refine wp_iload_n k213_34 rfl rfl ?_
    refine wp_iadd k213_35 ?_
    refine wp_cast (i_add _ _) ?_
    refine wp_cv (st2 := [_, _]) k213_36 (e_byteT (V := (ovr V 313 (layG (V.1 313) f l T.2.1 T.2.2.1 t i))) hM (show TX (ovr V 313 (layG (V.1 313) f l T.2.1 T.2.2.1 t i)) f l from hT) (by omega)) (by decide) rfl rfl rfl rfl (by decide) hM.o (by decide) ?_
    refine wp_iastoreP k213_39 (by decide) (hM.a313) (i_inO (by omega) (by decide)) ((t + 1) + i) (i_un (by omega)) (by decide) ?_
    refine wp_iinc (L1 := [_, _, _]) 1 k213_40 rfl (by decide) rfl ?_
    refine wp_goto k213_43 ?_
    refine wp_eq (ih (i + 1) (by omega)) (by rw [i_succ]) rfl ?_
    show hH sh (pp (up _ 313 (t + 1 + i) _) T) = _
    rw [ovr_up]
    congr 3
    funext j
    unfold layG
    by_cases e : j = t + 1 + i
    · subst e
      rw [if_pos rfl, if_neg (by omega), if_pos (by omega), show t + 1 + i - t - 1 = i by omega]
    · rw [if_neg e]
      by_cases e1 : j = t
      · rw [if_pos e1, if_pos e1]
      · rw [if_neg e1, if_neg e1]
        by_cases e2 : t + 1 ≤ j ∧ j < t + 1 + i
        · rw [if_pos e2, if_pos (by omega)]
        · rw [if_neg e2, if_neg (by omega)]
theorem e_laysName {S : ww_S} {sh : List mm_C} {V : hV} {T : hP} (hM : MS sh) {f : Nat → Int32} {l : Nat} (hT : TX V f l) (hb : T.2.1 ≤ 3000) {t : Nat} (hw : T.2.2.1 ≤ 6) (ht : t + 10 ≤ 564) : EV S 2 213 [.ref 312, .int (Int32.ofNat t)] (hH sh (pp V T)) (.inl none) (hH sh (pp (layV V f l T.2.1 T.2.2.1 t) T)) := by
  refine ev_qe P213 rfl ?_
  refine wp_aload_n k213_0 rfl rfl ?_
  refine wp_getR k213_1 (by decide) hM.o rfl ?_
  refine wp_iload_n k213_4 rfl rfl ?_
  refine wp_aload_n k213_5 rfl rfl ?_
  refine wp_getI k213_6 (by decide) hM.o rfl (Int32.ofNat (T.2.2.1)) rfl ?_
  refine wp_iastoreP k213_9 (by decide) (hM.a313) (i_inO (by omega) (by decide)) (t) (i_un (by omega)) (by decide) ?_
  refine wp_iconst 0 k213_10 (by decide) ?_
  refine wp_istore_n (L1 := [_, _, _]) k213_11 rfl rfl ?_
  have e9 : up V 313 t (Int32.ofNat T.2.2.1) = ovr V 313 (layG (V.1 313) f l T.2.1 T.2.2.1 t 0) := by
    rw [up_ovr]
    congr 1
    funext j
    unfold layG
    by_cases e : j = t
    · rw [if_pos e, if_pos e]
    · rw [if_neg e, if_neg e, if_neg (by omega)]
  rw [e9]
  exact l_laysName hM hT hb hw ht T.2.2.1 0 (by omega)
theorem e_starts {S : ww_S} {sh : List mm_C} {V : hV} {T : hP} (hM : MS sh) : EV S 1 214 [.ref 312] (hH sh (pp V T)) (.inl none) (hH sh (pp V ((0, 0, T.2.2.1, 0, -1)))) := by
  refine ev_qe P214 rfl ?_
  refine wp_aload_n k214_0 rfl rfl ?_
  refine wp_iconst 0 k214_1 (by decide) ?_
  refine wp_ps11 k214_2 hM.o (0) rfl ?_
  refine wp_aload_n k214_5 rfl rfl ?_
  refine wp_iconst 0 k214_6 (by decide) ?_
  refine wp_ps12 k214_7 hM.o (0) rfl ?_
  refine wp_aload_n k214_10 rfl rfl ?_
  refine wp_iconst 0 k214_11 (by decide) ?_
  refine wp_ps14 k214_12 hM.o (0) rfl ?_
  refine wp_aload_n k214_15 rfl rfl ?_
  refine wp_iconst (-1) k214_16 (by decide) ?_
  refine wp_ps15 k214_17 hM.o ((-1)) rfl ?_
  exact wp_retn k214_20 rfl rfl
theorem e_ends {S : ww_S} {sh : List mm_C} {V : hV} {T : hP} (hM : MS sh) : EV S 1 215 [.ref 312] (hH sh (pp V T)) (.inl (some (.int (bI (decide (er T = 0)))))) (hH sh (pp (up (up (up V 312 10 0) 312 16 (er T)) 312 17 T.2.2.2.2) T)) := by
  refine ev_qe P215 rfl ?_
  refine wp_aload_n k215_0 rfl rfl ?_
  refine wp_iconst 0 k215_1 (by decide) ?_
  refine wp_putIP k215_2 (by decide) hM.o rfl rfl rfl (by decide) ?_
  refine wp_aload_n k215_5 rfl rfl ?_
  refine wp_aload_n k215_6 rfl rfl ?_
  refine wp_getI k215_7 (by decide) hM.o rfl (T.2.2.2.1) rfl ?_
  refine wp_putIP k215_10 (by decide) hM.o rfl rfl rfl (by decide) ?_
  refine wp_aload_n k215_13 rfl rfl ?_
  refine wp_aload_n k215_14 rfl rfl ?_
  refine wp_getI k215_15 (by decide) hM.o rfl (T.2.2.2.2) rfl ?_
  refine wp_putIP k215_18 (by decide) hM.o rfl rfl rfl (by decide) ?_
  refine wp_aload_n k215_21 rfl rfl ?_
  refine wp_getI k215_22 (by decide) hM.o rfl (T.2.2.2.1) rfl ?_
  refine wp_if_ne k215_25 (fun c25 => ?_) (fun c25 => ?_)
  · refine wp_iconst 0 k215_32 (by decide) ?_
    exact wp_retz k215_33 rfl (by rw [decide_eq_false c25]; rfl) rfl
  · refine wp_iconst 1 k215_28 (by decide) ?_
    refine wp_goto k215_29 ?_
    exact wp_retz k215_33 rfl (by rw [decide_eq_true c25]; rfl) rfl
theorem e_errorCode {S : ww_S} {sh : List mm_C} {V : hV} (hM : MS sh)  : EV S 1 216 [.ref 312] (hH sh V) (.inl (some (.int (V.1 312 16)))) (hH sh (up V 312 6 0)) := by
  refine ev_qe P216 rfl ?_
  refine wp_aload_n k216_0 rfl rfl ?_
  refine wp_iconst 0 k216_1 (by decide) ?_
  refine wp_putI k216_2 (by decide) hM.o rfl rfl rfl ?_
  refine wp_aload_n k216_5 rfl rfl ?_
  refine wp_getI k216_6 (by decide) hM.o rfl (V.1 312 16) (up_ne V 0 (Or.inr (by decide))) ?_
  exact wp_reti k216_9 rfl rfl rfl
theorem e_errorPosition {S : ww_S} {sh : List mm_C} {V : hV} (hM : MS sh)  : EV S 1 217 [.ref 312] (hH sh V) (.inl (some (.int (V.1 312 17)))) (hH sh (up V 312 6 0)) := by
  refine ev_qe P217 rfl ?_
  refine wp_aload_n k217_0 rfl rfl ?_
  refine wp_iconst 0 k217_1 (by decide) ?_
  refine wp_putI k217_2 (by decide) hM.o rfl rfl rfl ?_
  refine wp_aload_n k217_5 rfl rfl ?_
  refine wp_getI k217_6 (by decide) hM.o rfl (V.1 312 17) (up_ne V 0 (Or.inr (by decide))) ?_
  exact wp_reti k217_9 rfl rfl rfl
/-- the nodes that are read F, how many were seen, how many parentheses are open, laid over -/
def fmV (V : hV) (F : Nat → Int32) (s o : Nat) : hV := (fun a k => if a = 320 then F k else if a = 312 then (if k = 20 then Int32.ofNat s else if k = 21 then Int32.ofNat o else V.1 312 k) else V.1 a k, V.2)
theorem fm_F (V : hV) (F : Nat → Int32) (s o k : Nat) (x : Int32) : up (fmV V F s o) 320 k x = fmV V (fun j => if j = k then x else F j) s o := by
  refine hV_ext (fun a j => ?_) rfl
  by_cases h : a = 320
  · subst h
    by_cases h2 : j = k
    · subst h2
      rw [up_eq]
      exact (if_pos rfl).symm
    · rw [up_ne _ _ (Or.inr h2)]
      exact (if_neg h2).symm
  · rw [up_ne _ _ (Or.inl h)]
    unfold fmV
    dsimp only
    rw [if_neg h, if_neg h]
theorem fm_s (V : hV) (F : Nat → Int32) (s o z : Nat) : up (fmV V F s o) 312 20 (Int32.ofNat z) = fmV V F z o := by
  refine hV_ext (fun a j => ?_) rfl
  by_cases h : a = 312
  · subst h
    by_cases h2 : j = 20
    · subst h2; rw [up_eq]; rfl
    · rw [up_ne _ _ (Or.inr h2)]
      unfold fmV
      simp [h2]
  · rw [up_ne _ _ (Or.inl h)]
    unfold fmV
    dsimp only
    rw [if_neg h, if_neg h]
theorem fm_o (V : hV) (F : Nat → Int32) (s o z : Nat) : up (fmV V F s o) 312 21 (Int32.ofNat z) = fmV V F s z := by
  refine hV_ext (fun a j => ?_) rfl
  by_cases h : a = 312
  · subst h
    by_cases h2 : j = 21
    · subst h2; rw [up_eq]; rfl
    · rw [up_ne _ _ (Or.inr h2)]
      unfold fmV
      simp [h2]
  · rw [up_ne _ _ (Or.inl h)]
    unfold fmV
    dsimp only
    rw [if_neg h, if_neg h]
/-- one more node: where it is laid; none behind an error, or if there is no room -/
def mdF (F : Nat → Int32) (b : Nat) (e kind a c : Int32) : Int32 × (Nat → Int32) := if e = 0 ∧ mm_un (F b) < 60 then (F b, fun j => if j = b then F b + 1 else if j = b + 1 + 4 * mm_un (F b) + 2 then c else if j = b + 1 + 4 * mm_un (F b) + 1 then a else if j = b + 1 + 4 * mm_un (F b) then kind else F j) else (0, F)
def coP (s : Nat) (T : hP) : hP := muP (if s + 1 ≤ 60 then 1 else 0) 3 T
theorem e_counts {S : ww_S} {sh : List mm_C} {V : hV} {T : hP} (hM : MS sh) {F : Nat → Int32} {s o : Nat} (hs : s ≤ 1000) : EV S 3 218 [.ref 312] (hH sh (pp (fmV V F s o) T)) (.inl none) (hH sh (pp (fmV V F (s + 1) o) (coP s T))) := by
  refine ev_qe P218 rfl ?_
  refine wp_aload_n k218_0 rfl rfl ?_
  refine wp_dup k218_1 rfl ?_
  refine wp_getIP k218_2 (by decide) hM.o rfl (by decide) (Int32.ofNat s) rfl ?_
  refine wp_iconst 1 k218_5 (by decide) ?_
  refine wp_iadd k218_6 ?_
  refine wp_cast (show Int32.ofNat (s) + (1 : Int32) = Int32.ofNat (s + 1) from (Int32.ofNat_add _ 1).symm) ?_
  refine wp_putIP k218_7 (by decide) hM.o rfl rfl rfl (by decide) ?_
  refine wp_aload_n k218_10 rfl rfl ?_
  refine wp_aload_n k218_11 rfl rfl ?_
  refine wp_getIP k218_12 (by decide) hM.o rfl (by decide) (Int32.ofNat (s + 1)) (up_eq _ 312 20 _) ?_
  refine wp_bipush 60 k218_15 (by decide) ?_
  refine wp_if_icmp_gt k218_17 (fun c17 => ?_) (fun c17 => ?_)
  · refine wp_iconst 0 k218_24 (by decide) ?_
    refine wp_iconst 3 k218_25 (by decide) ?_
    refine wp_cvn (st2 := []) k218_26 (e_must hM) (by decide) rfl rfl rfl rfl (by decide) hM.o (by decide) ?_
    have h60 : ((60 : Int32) < Int32.ofNat (s + 1)) ↔ 60 < s + 1 := Int32.ofNat_lt_iff_lt (a := 60) (by decide) (by omega)
    have hc : coP s T = muP 0 3 T := by
      unfold coP
      rw [if_neg (by have := h60.mp c17; omega)]
    exact wp_retn k218_29 rfl (by rw [fm_s, hc]; rfl)
  · refine wp_iconst 1 k218_20 (by decide) ?_
    refine wp_goto k218_21 ?_
    refine wp_iconst 3 k218_25 (by decide) ?_
    refine wp_cvn (st2 := []) k218_26 (e_must hM) (by decide) rfl rfl rfl rfl (by decide) hM.o (by decide) ?_
    have h60 : ((60 : Int32) < Int32.ofNat (s + 1)) ↔ 60 < s + 1 := Int32.ofNat_lt_iff_lt (a := 60) (by decide) (by omega)
    have hc : coP s T = muP 1 3 T := by
      unfold coP
      rw [if_pos (by have h9 := mt h60.mpr c17; omega)]
    exact wp_retn k218_29 rfl (by rw [fm_s, hc]; rfl)
end M8
