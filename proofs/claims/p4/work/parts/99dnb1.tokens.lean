section N_b
/-! ===== the class, exactly: tokens ===== -/
section WN
variable {S : ww_S} {D : Nat} {M : mm_M} {pc p9 nx : Nat} {L : mm_L} {st : List Value} {h : mm_H} {Q : mm_V → mm_H → Prop}
theorem wp_tswN {a b : Int} {l0 dd i t : Nat} {offs : Array Int} {ts : List Nat} (hk : mm_lk M.1 pc = some (p9, .tableswitch a (.ofNat l0) b offs, nx, dd :: ts)) {x : Int32} (hx : mm_un x = l0 + i) (ht : ts[i]? = some t) (hs : l0 + ts.length ≤ 2147483648) (w : WP S D M t L st h Q) : WP S D M pc L (.int x :: st) h Q := wp_tsw hk (fun q u g e => by
  have hq : q = i := by omega
  subst hq
  rw [ht] at g
  cases g
  exact w) (fun z => absurd hx (z i (List.getElem?_eq_some_iff.mp ht).1)) hs
theorem wp_tswD {a b : Int} {l0 dd : Nat} {offs : Array Int} {ts : List Nat} (hk : mm_lk M.1 pc = some (p9, .tableswitch a (.ofNat l0) b offs, nx, dd :: ts)) {x : Int32} (hx : mm_un x < l0 ∨ l0 + ts.length ≤ mm_un x) (hs : l0 + ts.length ≤ 2147483648) (w : WP S D M dd L st h Q) : WP S D M pc L (.int x :: st) h Q := wp_tsw hk (fun q u g e => by
  have := (List.getElem?_eq_some_iff.mp g).1
  omega) (fun _ => w) hs
end WN
theorem s_word {S : ww_S} {h : mm_H} : EV S 1 167 [.int 1] h (.inl (some (.ref 6))) h ∧ EV S 1 167 [.int 2] h (.inl (some (.ref 8))) h ∧ EV S 1 167 [.int 3] h (.inl (some (.ref 10))) h ∧ EV S 1 167 [.int 4] h (.inl (some (.ref 12))) h ∧ EV S 1 167 [.int 5] h (.inl (some (.ref 14))) h ∧ EV S 1 167 [.int 6] h (.inl (some (.ref 16))) h ∧ EV S 1 167 [.int 7] h (.inl (some (.ref 18))) h := by
  refine ⟨?_, ?_, ?_, ?_, ?_, ?_, ?_⟩
  · refine ev_qe P167 rfl ?_
    refine wp_iload_n k167_0 rfl rfl ?_
    refine wp_tswN (i := 0) k167_1 (by decide) rfl (by decide) ?_
    refine wp_ldc_wR k167_40 ?_
    exact wp_reta k167_43 rfl rfl
  · refine ev_qe P167 rfl ?_
    refine wp_iload_n k167_0 rfl rfl ?_
    refine wp_tswN (i := 1) k167_1 (by decide) rfl (by decide) ?_
    refine wp_ldc_wR k167_44 ?_
    exact wp_reta k167_47 rfl rfl
  · refine ev_qe P167 rfl ?_
    refine wp_iload_n k167_0 rfl rfl ?_
    refine wp_tswN (i := 2) k167_1 (by decide) rfl (by decide) ?_
    refine wp_ldc_wR k167_48 ?_
    exact wp_reta k167_51 rfl rfl
  · refine ev_qe P167 rfl ?_
    refine wp_iload_n k167_0 rfl rfl ?_
    refine wp_tswN (i := 3) k167_1 (by decide) rfl (by decide) ?_
    refine wp_ldc_wR k167_52 ?_
    exact wp_reta k167_55 rfl rfl
  · refine ev_qe P167 rfl ?_
    refine wp_iload_n k167_0 rfl rfl ?_
    refine wp_tswN (i := 4) k167_1 (by decide) rfl (by decide) ?_
    refine wp_ldc_wR k167_56 ?_
    exact wp_reta k167_59 rfl rfl
  · refine ev_qe P167 rfl ?_
    refine wp_iload_n k167_0 rfl rfl ?_
    refine wp_tswN (i := 5) k167_1 (by decide) rfl (by decide) ?_
    refine wp_ldc_wR k167_60 ?_
    exact wp_reta k167_63 rfl rfl
  · refine ev_qe P167 rfl ?_
    refine wp_iload_n k167_0 rfl rfl ?_
    refine wp_tswD k167_1 (by decide) (by decide) ?_
    refine wp_ldc_wR k167_64 ?_
    exact wp_reta k167_67 rfl rfl
/-- the kind of a word of at most six letters -/
def kwK (f : Nat → Int32) (l p : Nat) : Int32 := if spB f l p 3 2139822313027049357422 = true then 257 else if spB f l p 5 39132472205336074639533124620939281039467 = true then 258 else if spB f l p 5 34368519066779144738430796468111364063341 = true then 259 else if spB f l p 3 1992248360424488042593 = true then 260 else if spB f l p 6 160765180144170663739265370759291221489286224281699 = true then 261 else if spB f l p 3 1844674407843401564257 = true then 262 else if spB f l p 2 489626271855 = true then 263 else if spB f l p 4 9190466853443997336447601344628 = true then 265 else 256
theorem s_kindOfWord {S : ww_S} {sh : List mm_C} {V : hV} {f : Nat → Int32} {l p : Nat} (h : SoT sh V f l) (hp : p ≤ 90000) : EV S 6 68 [.ref 65, .int (Int32.ofNat p)] (hH sh V) (.inl (some (.int (kwK f l p)))) (hH sh V) := by
  obtain ⟨n1, n2, n3, n4, n5, n6, n7⟩ := s_word (S := S) (h := hH sh V)
  refine ev_qe P68 rfl ?_
  refine wp_iconst 1 k68_0 (by decide) ?_
  refine wp_istore_n (L1 := [_, _, _]) k68_1 rfl rfl ?_
  refine wp_iload_n k68_2 rfl rfl ?_
  refine wp_bipush 7 k68_3 (by decide) ?_
  refine wp_if_icmp_gt_F k68_5 (by decide) ?_
  refine wp_aload_n k68_8 rfl rfl ?_
  refine wp_iload_n k68_9 rfl rfl ?_
  refine wp_iload_n k68_10 rfl rfl ?_
  refine wp_cs (st2 := [_, _]) k68_11 n1 (by decide) rfl rfl rfl (by decide) ?_
  refine wp_cv (st2 := []) k68_14 (s_spells h hp XS6) (by decide) rfl rfl rfl rfl (by decide) h.1.1.o (by decide) ?_
  by_cases h1 : spB f l p 3 2139822313027049357422 = true
  · rw [h1]
    refine wp_if_eq_F k68_17 (by decide) ?_
    refine wp_sipush 256 k68_20 (by decide) ?_
    refine wp_iload_n k68_23 rfl rfl ?_
    refine wp_iadd k68_24 ?_
    exact wp_reti k68_25 rfl (by unfold kwK; rw [if_pos h1]; decide) rfl
  · rw [Bool.not_eq_true] at h1
    rw [h1]
    refine wp_if_eq_T k68_17 rfl ?_
    refine wp_iinc 1 (L1 := [_, _, _]) k68_26 rfl (by decide) rfl ?_
    refine wp_goto k68_29 ?_
    rw [show (1 : Int32) + 1 = 2 from by decide]
    refine wp_iload_n k68_2 rfl rfl ?_
    refine wp_bipush 7 k68_3 (by decide) ?_
    refine wp_if_icmp_gt_F k68_5 (by decide) ?_
    refine wp_aload_n k68_8 rfl rfl ?_
    refine wp_iload_n k68_9 rfl rfl ?_
    refine wp_iload_n k68_10 rfl rfl ?_
    refine wp_cs (st2 := [_, _]) k68_11 n2 (by decide) rfl rfl rfl (by decide) ?_
    refine wp_cv (st2 := []) k68_14 (s_spells h hp XS8) (by decide) rfl rfl rfl rfl (by decide) h.1.1.o (by decide) ?_
    by_cases h2 : spB f l p 5 39132472205336074639533124620939281039467 = true
    · rw [h2]
      refine wp_if_eq_F k68_17 (by decide) ?_
      refine wp_sipush 256 k68_20 (by decide) ?_
      refine wp_iload_n k68_23 rfl rfl ?_
      refine wp_iadd k68_24 ?_
      exact wp_reti k68_25 rfl (by unfold kwK; rw [if_neg (by rw [h1]; decide), if_pos h2]; decide) rfl
    · rw [Bool.not_eq_true] at h2
      rw [h2]
      refine wp_if_eq_T k68_17 rfl ?_
      refine wp_iinc 1 (L1 := [_, _, _]) k68_26 rfl (by decide) rfl ?_
      refine wp_goto k68_29 ?_
      rw [show (2 : Int32) + 1 = 3 from by decide]
      refine wp_iload_n k68_2 rfl rfl ?_
      refine wp_bipush 7 k68_3 (by decide) ?_
      refine wp_if_icmp_gt_F k68_5 (by decide) ?_
      refine wp_aload_n k68_8 rfl rfl ?_
      refine wp_iload_n k68_9 rfl rfl ?_
      refine wp_iload_n k68_10 rfl rfl ?_
      refine wp_cs (st2 := [_, _]) k68_11 n3 (by decide) rfl rfl rfl (by decide) ?_
      refine wp_cv (st2 := []) k68_14 (s_spells h hp XS10) (by decide) rfl rfl rfl rfl (by decide) h.1.1.o (by decide) ?_
      by_cases h3 : spB f l p 5 34368519066779144738430796468111364063341 = true
      · rw [h3]
        refine wp_if_eq_F k68_17 (by decide) ?_
        refine wp_sipush 256 k68_20 (by decide) ?_
        refine wp_iload_n k68_23 rfl rfl ?_
        refine wp_iadd k68_24 ?_
        exact wp_reti k68_25 rfl (by unfold kwK; rw [if_neg (by rw [h1]; decide), if_neg (by rw [h2]; decide), if_pos h3]; decide) rfl
      · rw [Bool.not_eq_true] at h3
        rw [h3]
        refine wp_if_eq_T k68_17 rfl ?_
        refine wp_iinc 1 (L1 := [_, _, _]) k68_26 rfl (by decide) rfl ?_
        refine wp_goto k68_29 ?_
        rw [show (3 : Int32) + 1 = 4 from by decide]
        refine wp_iload_n k68_2 rfl rfl ?_
        refine wp_bipush 7 k68_3 (by decide) ?_
        refine wp_if_icmp_gt_F k68_5 (by decide) ?_
        refine wp_aload_n k68_8 rfl rfl ?_
        refine wp_iload_n k68_9 rfl rfl ?_
        refine wp_iload_n k68_10 rfl rfl ?_
        refine wp_cs (st2 := [_, _]) k68_11 n4 (by decide) rfl rfl rfl (by decide) ?_
        refine wp_cv (st2 := []) k68_14 (s_spells h hp XS12) (by decide) rfl rfl rfl rfl (by decide) h.1.1.o (by decide) ?_
        by_cases h4 : spB f l p 3 1992248360424488042593 = true
        · rw [h4]
          refine wp_if_eq_F k68_17 (by decide) ?_
          refine wp_sipush 256 k68_20 (by decide) ?_
          refine wp_iload_n k68_23 rfl rfl ?_
          refine wp_iadd k68_24 ?_
          exact wp_reti k68_25 rfl (by unfold kwK; rw [if_neg (by rw [h1]; decide), if_neg (by rw [h2]; decide), if_neg (by rw [h3]; decide), if_pos h4]; decide) rfl
        · rw [Bool.not_eq_true] at h4
          rw [h4]
          refine wp_if_eq_T k68_17 rfl ?_
          refine wp_iinc 1 (L1 := [_, _, _]) k68_26 rfl (by decide) rfl ?_
          refine wp_goto k68_29 ?_
          rw [show (4 : Int32) + 1 = 5 from by decide]
          refine wp_iload_n k68_2 rfl rfl ?_
          refine wp_bipush 7 k68_3 (by decide) ?_
          refine wp_if_icmp_gt_F k68_5 (by decide) ?_
          refine wp_aload_n k68_8 rfl rfl ?_
          refine wp_iload_n k68_9 rfl rfl ?_
          refine wp_iload_n k68_10 rfl rfl ?_
          refine wp_cs (st2 := [_, _]) k68_11 n5 (by decide) rfl rfl rfl (by decide) ?_
          refine wp_cv (st2 := []) k68_14 (s_spells h hp XS14) (by decide) rfl rfl rfl rfl (by decide) h.1.1.o (by decide) ?_
          by_cases h5 : spB f l p 6 160765180144170663739265370759291221489286224281699 = true
          · rw [h5]
            refine wp_if_eq_F k68_17 (by decide) ?_
            refine wp_sipush 256 k68_20 (by decide) ?_
            refine wp_iload_n k68_23 rfl rfl ?_
            refine wp_iadd k68_24 ?_
            exact wp_reti k68_25 rfl (by unfold kwK; rw [if_neg (by rw [h1]; decide), if_neg (by rw [h2]; decide), if_neg (by rw [h3]; decide), if_neg (by rw [h4]; decide), if_pos h5]; decide) rfl
          · rw [Bool.not_eq_true] at h5
            rw [h5]
            refine wp_if_eq_T k68_17 rfl ?_
            refine wp_iinc 1 (L1 := [_, _, _]) k68_26 rfl (by decide) rfl ?_
            refine wp_goto k68_29 ?_
            rw [show (5 : Int32) + 1 = 6 from by decide]
            refine wp_iload_n k68_2 rfl rfl ?_
            refine wp_bipush 7 k68_3 (by decide) ?_
            refine wp_if_icmp_gt_F k68_5 (by decide) ?_
            refine wp_aload_n k68_8 rfl rfl ?_
            refine wp_iload_n k68_9 rfl rfl ?_
            refine wp_iload_n k68_10 rfl rfl ?_
            refine wp_cs (st2 := [_, _]) k68_11 n6 (by decide) rfl rfl rfl (by decide) ?_
            refine wp_cv (st2 := []) k68_14 (s_spells h hp XS16) (by decide) rfl rfl rfl rfl (by decide) h.1.1.o (by decide) ?_
            by_cases h6 : spB f l p 3 1844674407843401564257 = true
            · rw [h6]
              refine wp_if_eq_F k68_17 (by decide) ?_
              refine wp_sipush 256 k68_20 (by decide) ?_
              refine wp_iload_n k68_23 rfl rfl ?_
              refine wp_iadd k68_24 ?_
              exact wp_reti k68_25 rfl (by unfold kwK; rw [if_neg (by rw [h1]; decide), if_neg (by rw [h2]; decide), if_neg (by rw [h3]; decide), if_neg (by rw [h4]; decide), if_neg (by rw [h5]; decide), if_pos h6]; decide) rfl
            · rw [Bool.not_eq_true] at h6
              rw [h6]
              refine wp_if_eq_T k68_17 rfl ?_
              refine wp_iinc 1 (L1 := [_, _, _]) k68_26 rfl (by decide) rfl ?_
              refine wp_goto k68_29 ?_
              rw [show (6 : Int32) + 1 = 7 from by decide]
              refine wp_iload_n k68_2 rfl rfl ?_
              refine wp_bipush 7 k68_3 (by decide) ?_
              refine wp_if_icmp_gt_F k68_5 (by decide) ?_
              refine wp_aload_n k68_8 rfl rfl ?_
              refine wp_iload_n k68_9 rfl rfl ?_
              refine wp_iload_n k68_10 rfl rfl ?_
              refine wp_cs (st2 := [_, _]) k68_11 n7 (by decide) rfl rfl rfl (by decide) ?_
              refine wp_cv (st2 := []) k68_14 (s_spells h hp XS18) (by decide) rfl rfl rfl rfl (by decide) h.1.1.o (by decide) ?_
              by_cases h7 : spB f l p 2 489626271855 = true
              · rw [h7]
                refine wp_if_eq_F k68_17 (by decide) ?_
                refine wp_sipush 256 k68_20 (by decide) ?_
                refine wp_iload_n k68_23 rfl rfl ?_
                refine wp_iadd k68_24 ?_
                exact wp_reti k68_25 rfl (by unfold kwK; rw [if_neg (by rw [h1]; decide), if_neg (by rw [h2]; decide), if_neg (by rw [h3]; decide), if_neg (by rw [h4]; decide), if_neg (by rw [h5]; decide), if_neg (by rw [h6]; decide), if_pos h7]; decide) rfl
              · rw [Bool.not_eq_true] at h7
                rw [h7]
                refine wp_if_eq_T k68_17 rfl ?_
                refine wp_iinc 1 (L1 := [_, _, _]) k68_26 rfl (by decide) rfl ?_
                refine wp_goto k68_29 ?_
                rw [show (7 : Int32) + 1 = 8 from by decide]
                refine wp_iload_n k68_2 rfl rfl ?_
                refine wp_bipush 7 k68_3 (by decide) ?_
                refine wp_if_icmp_gt_T k68_5 (by decide) ?_
                refine wp_aload_n k68_32 rfl rfl ?_
                refine wp_iload_n k68_33 rfl rfl ?_
                refine wp_ldcR k68_34 ?_
                refine wp_cv (st2 := []) k68_36 (s_spells h hp XS20) (by decide) rfl rfl rfl rfl (by decide) h.1.1.o (by decide) ?_
                by_cases h8 : spB f l p 4 9190466853443997336447601344628 = true
                · rw [h8]
                  refine wp_if_eq_F k68_39 (by decide) ?_
                  refine wp_sipush 265 k68_42 (by decide) ?_
                  refine wp_goto k68_45 ?_
                  exact wp_reti k68_51 rfl (by unfold kwK; rw [if_neg (by rw [h1]; decide), if_neg (by rw [h2]; decide), if_neg (by rw [h3]; decide), if_neg (by rw [h4]; decide), if_neg (by rw [h5]; decide), if_neg (by rw [h6]; decide), if_neg (by rw [h7]; decide), if_pos h8]) rfl
                · rw [Bool.not_eq_true] at h8
                  rw [h8]
                  refine wp_if_eq_T k68_39 rfl ?_
                  refine wp_sipush 256 k68_48 (by decide) ?_
                  exact wp_reti k68_51 rfl (by unfold kwK; rw [if_neg (by rw [h1]; decide), if_neg (by rw [h2]; decide), if_neg (by rw [h3]; decide), if_neg (by rw [h4]; decide), if_neg (by rw [h5]; decide), if_neg (by rw [h6]; decide), if_neg (by rw [h7]; decide), if_neg (by rw [h8]; decide)]) rfl
/-- the kind of the token at p, and its name; p is no space -/
def kdF (f : Nat → Int32) (l p : Nat) : Int32 := if wl f l p = 0 then byt f l p else if 6 < wl f l p then 266 else kwK f l p
def nmT (f : Nat → Int32) (l p : Nat) : Int32 := if wl f l p = 0 then 0 else if kdF f l p = 256 then nmF f l p else 0
def kdE (f : Nat → Int32) (l p : Nat) : Int32 := if p < l then kdF f l p else 267
def nmE (f : Nat → Int32) (l p : Nat) : Int32 := if p < l then nmT f l p else 0
/-- behind the token at p -/
def wdN (f : Nat → Int32) (l p : Nat) : Nat := if wl f l p = 0 then 1 else wl f l p
/-- where the token behind the one at p stands -/
def nxE (f : Nat → Int32) (l p : Nat) : Nat := if p < l then sk f l (p + wdN f l p) else p
/-- where token i stands -/
def tp (f : Nat → Int32) (l : Nat) : Nat → Nat
  | 0 => sk f l 0
  | i + 1 => nxE f l (tp f l i)
theorem sk_lt {f : Nat → Int32} {l a : Nat} (h : a ≤ l) : a ≤ sk f l a ∧ sk f l a ≤ l := by
  have := skF_ge f l l a
  have := sk_le f l a
  exact ⟨by omega, by omega⟩
theorem wl_le {f : Nat → Int32} {l p : Nat} (h : p ≤ l) : p + wl f l p ≤ l := by
  rcases wlF_le f l p l 0 with q | q
  · have : wl f l p ≤ 0 := q
    omega
  · exact q
theorem wd_le {f : Nat → Int32} {l p : Nat} (h : p < l) : p + wdN f l p ≤ l ∧ 1 ≤ wdN f l p := by
  have := wl_le (f := f) (l := l) (p := p) (by omega)
  unfold wdN
  split <;> omega
theorem nx_gt {f : Nat → Int32} {l p : Nat} (h : p < l) : p < nxE f l p ∧ nxE f l p ≤ l := by
  obtain ⟨h1, h2⟩ := wd_le (f := f) h
  have := sk_lt (f := f) h1
  unfold nxE
  rw [if_pos h]
  omega
theorem tp_le (f : Nat → Int32) (l : Nat) : ∀ i, tp f l i ≤ l
  | 0 => (sk_lt (Nat.zero_le _)).2
  | i + 1 => by
    have := tp_le f l i
    show nxE f l (tp f l i) ≤ l
    by_cases c : tp f l i < l
    · exact (nx_gt c).2
    · unfold nxE
      rw [if_neg c]
      exact this
/-- what a token's cells hold -/
def tkC (V : hV) (f : Nat → Int32) (l i p : Nat) : Prop := V.1 67 i = kdE f l p ∧ V.1 68 i = Int32.ofNat p ∧ V.1 69 i = nmE f l p
/-- the source stands at p, the tokens are there; e: its error -/
def SRC (sh : List mm_C) (V : hV) (f : Nat → Int32) (l p : Nat) (e : Int32) : Prop := SoT sh V f l ∧ ∃ n i : Nat, n ≤ l ∧ i ≤ n ∧ V.1 65 5 = Int32.ofNat (n + 1) ∧ V.1 65 6 = Int32.ofNat i ∧ tp f l n = l ∧ tp f l i = p ∧ (∀ j, j ≤ n → tkC V f l j (tp f l j)) ∧ V.1 65 7 = kdE f l p ∧ V.1 65 8 = Int32.ofNat p ∧ V.1 65 9 = nmE f l p ∧ V.1 65 10 = e
def tkV (V : hV) (n : Nat) (k s m : Int32) : hV := up (up (up (up V 67 n k) 68 n s) 69 n m) 65 5 (Int32.ofNat n + 1)
theorem s_addToken {S : ww_S} {sh : List mm_C} {V : hV} {n : Nat} (hS : kSrc sh) (hn : V.1 65 5 = Int32.ofNat n) (h6 : n ≤ 600) {k s m : Int32} : EV S 2 73 [.ref 65, .int k, .int s, .int m] (hH sh V) (.inl none) (hH sh (tkV V n k s m)) := by
  have SP : ∀ (U : hV) (q : Nat) (y : Int32), kR sh q 601 → EV S 1 157 [.ref q, .int (Int32.ofNat n), .int y] (hH sh U) (.inl none) (hH sh (up U q n y)) := by
    intro U q y hq
    have E := s_put (S := S) (V := U) hq (by decide) (i := Int32.ofNat n) (x := y)
    rw [putV_up (by omega) (by decide)] at E
    exact E
  have e1 : (up V 67 n k).1 65 5 = Int32.ofNat n := (up_ne _ _ (Or.inl (by decide))).trans hn
  have e2 : (up (up V 67 n k) 68 n s).1 65 5 = Int32.ofNat n := (up_ne _ _ (Or.inl (by decide))).trans e1
  have e3 : (up (up (up V 67 n k) 68 n s) 69 n m).1 65 5 = Int32.ofNat n := (up_ne _ _ (Or.inl (by decide))).trans e2
  refine ev_qe P73 rfl ?_
  refine wp_aload_n k73_0 rfl rfl ?_
  refine wq_getR k73_1 hS.1 rfl ?_
  refine wp_aload_n k73_4 rfl rfl ?_
  refine wp_getI k73_5 hS.1.h hS.1.o rfl _ hn ?_
  refine wp_iload_n k73_8 rfl rfl ?_
  refine wp_csn (st2 := []) k73_9 (SP _ 67 _ hS.2.2.1.r) (by decide) rfl rfl rfl (by decide) ?_
  refine wp_aload_n k73_12 rfl rfl ?_
  refine wq_getR k73_13 hS.1 rfl ?_
  refine wp_aload_n k73_16 rfl rfl ?_
  refine wp_getI k73_17 hS.1.h hS.1.o rfl _ e1 ?_
  refine wp_iload_n k73_20 rfl rfl ?_
  refine wp_csn (st2 := []) k73_21 (SP _ 68 _ hS.2.2.2.1.r) (by decide) rfl rfl rfl (by decide) ?_
  refine wp_aload_n k73_24 rfl rfl ?_
  refine wq_getR k73_25 hS.1 rfl ?_
  refine wp_aload_n k73_28 rfl rfl ?_
  refine wp_getI k73_29 hS.1.h hS.1.o rfl _ e2 ?_
  refine wp_iload_n k73_32 rfl rfl ?_
  refine wp_csn (st2 := []) k73_33 (SP _ 69 _ hS.2.2.2.2.r) (by decide) rfl rfl rfl (by decide) ?_
  refine wp_aload_n k73_36 rfl rfl ?_
  refine wp_dup k73_37 rfl ?_
  refine wp_getI k73_38 hS.1.h hS.1.o rfl _ e3 ?_
  refine wp_iconst 1 k73_41 (by decide) ?_
  refine wp_iadd k73_42 ?_
  refine wp_putI k73_43 hS.1.h hS.1.o rfl rfl rfl ?_
  exact wp_retn k73_46 rfl rfl
end N_b
