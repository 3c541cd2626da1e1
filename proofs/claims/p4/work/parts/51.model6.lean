section M6
/-! ===== the state of reading as one tuple: where, begin of the word, its length, error, its place ===== -/
abbrev hP : Type := Nat × Nat × Nat × Int32 × Int32
abbrev pp (V : hV) (T : hP) : hV := ps V T.1 T.2.1 T.2.2.1 T.2.2.2.1 T.2.2.2.2
abbrev er (T : hP) : Int32 := T.2.2.2.1
def nxP (f : Nat → Int32) (l : Nat) (T : hP) : hP := (sk f l T.1, sk f l T.1, wn f l T.1, T.2.2.2.1, T.2.2.2.2)
def muP (x c : Int32) (T : hP) : hP := (T.1, T.2.1, T.2.2.1, muE x (er T) c, muA x (er T) T.2.2.2.2 T.2.1)
def goP (T : hP) : hP := (T.2.1 + T.2.2.1, T.2)
def seB (f : Nat → Int32) (l : Nat) (T : hP) (n N : Nat) : Bool := decide (er T = 0) && seW f l T.1 n N
def taP (f : Nat → Int32) (l : Nat) (T : hP) (n N : Nat) : hP := if seB f l T n N = true then goP (nxP f l T) else nxP f l T
def upP (T : hP) : hP := (T.1 + 1, T.2)
def sgP (f : Nat → Int32) (l : Nat) (c : Int32) (T : hP) : hP := if er T = 0 then upP (muP (if byt f l (sk f l T.1) = c then 1 else 0) 1 (nxP f l T)) else T
/-- a word of its own stands at a -/
def owW (f : Nat → Int32) (l a : Nat) : Bool := (seW f l a 3 2139822313027049357422 || (seW f l a 3 1844674407843401564257 || (seW f l a 2 489626271855 || (seW f l a 5 39132472205336074639533124620939281039467 || (seW f l a 5 34368519066779144738430796468111364063341 || (seW f l a 3 1992248360424488042593 || (seW f l a 6 160765180144170663739265370759291221489286224281699 || seW f l a 4 9190466853443997336447601344628)))))))
theorem bI_1 {b : Bool} : (1 = bI b) ↔ b = true := by cases b <;> decide
theorem bI_z {b : Bool} : (0 = bI b) ↔ b = false := by cases b <;> decide
theorem e_sees2 {S : ww_S} {sh : List mm_C} {V : hV} {a : Nat} {e ea : Int32} (hM : MS sh) {f : Nat → Int32} {l : Nat} (hT : TX V f l) (ha : a ≤ 2000) {k n N : Nat} (hx : XS k n N) : EV S 5 205 [.ref 312, .ref k] (hH sh (ps V (sk f l a) (sk f l a) (wn f l a) e ea)) (.inl (some (.int (bI (decide (e = 0) && seW f l a n N))))) (hH sh (ps V (sk f l a) (sk f l a) (wn f l a) e ea)) := by
  have h := e_sees (S := S) hM hT (a := sk f l a) (b := sk f l a) (w := wn f l a) (e := e) (ea := ea) (by have := sk_le f l a; have := hT.2.1; omega) hx
  rw [show seW f l (sk f l a) n N = seW f l a n N from by unfold seW wn; rw [sk_sk], show wn f l (sk f l a) = wn f l a from by unfold wn; rw [sk_sk], sk_sk] at h
  exact h
theorem e_takes {S : ww_S} {sh : List mm_C} {V : hV} {T : hP} (hM : MS sh) {f : Nat → Int32} {l : Nat} (hT : TX V f l) (ha : T.1 ≤ 2000) {k n N : Nat} (hx : XS k n N) : EV S 6 206 [.ref 312, .ref k] (hH sh (pp V T)) (.inl (some (.int (bI (seB f l T n N))))) (hH sh (pp V (taP f l T n N))) := by
  refine ev_qe P206 rfl ?_
  refine wp_aload_n k206_0 rfl rfl ?_
  refine wp_aload_n k206_1 rfl rfl ?_
  refine wp_cv (st2 := []) k206_2 (e_sees hM hT (by omega) hx) (by decide) rfl rfl rfl rfl (by decide) hM.o (by decide) ?_
  refine wp_istore_n (L1 := [_, _, _]) k206_5 rfl rfl ?_
  refine wp_iload_n k206_6 rfl rfl ?_
  refine wp_if_eq k206_7 (fun c7 => ?_) (fun c7 => ?_)
  · refine wp_iload_n k206_23 rfl rfl ?_
    exact wp_retz k206_24 rfl rfl (by unfold taP; rw [if_neg (by rw [show seB f l T n N = false from bI_0.mp c7]; decide)]; rfl)
  · refine wp_aload_n k206_10 rfl rfl ?_
    refine wp_aload_n k206_11 rfl rfl ?_
    refine wp_getI k206_12 (by decide) hM.o rfl (Int32.ofNat (sk f l T.1)) rfl ?_
    refine wp_aload_n k206_15 rfl rfl ?_
    refine wp_getI k206_16 (by decide) hM.o rfl (Int32.ofNat (wn f l T.1)) rfl ?_
    refine wp_iadd k206_19 ?_
    refine wp_cast (i_add _ _) ?_
    refine wp_ps11 k206_20 hM.o ((sk f l T.1) + (wn f l T.1)) rfl ?_
    refine wp_iload_n k206_23 rfl rfl ?_
    exact wp_retz k206_24 rfl rfl (by unfold taP; rw [if_pos (show seB f l T n N = true from bI_n0.mp c7)]; rfl)
theorem e_sign {S : ww_S} {sh : List mm_C} {V : hV} {T : hP} (hM : MS sh) {f : Nat → Int32} {l : Nat} (hT : TX V f l) (ha : T.1 ≤ 2000) {c : Int32} : EV S 3 207 [.ref 312, .int c] (hH sh (pp V T)) (.inl none) (hH sh (pp V (sgP f l c T))) := by
  refine ev_qe P207 rfl ?_
  refine wp_aload_n k207_0 rfl rfl ?_
  refine wp_getI k207_1 (by decide) hM.o rfl (T.2.2.2.1) rfl ?_
  refine wp_if_eq k207_4 (fun c4 => ?_) (fun c4 => ?_)
  · refine wp_aload_n k207_8 rfl rfl ?_
    refine wp_aload_n k207_9 rfl rfl ?_
    refine wp_cv (st2 := [_]) k207_10 (e_nextT hM hT (by omega)) (by decide) rfl rfl rfl rfl (by decide) hM.o (by decide) ?_
    refine wp_iload_n k207_13 rfl rfl ?_
    refine wp_if_icmp_ne k207_14 (fun c14 => ?_) (fun c14 => ?_)
    · refine wp_iconst 0 k207_21 (by decide) ?_
      refine wp_iconst 1 k207_22 (by decide) ?_
      refine wp_cvn (st2 := []) k207_23 (e_must hM) (by decide) rfl rfl rfl rfl (by decide) hM.o (by decide) ?_
      refine wp_aload_n k207_26 rfl rfl ?_
      refine wp_dup k207_27 rfl ?_
      refine wp_getI k207_28 (by decide) hM.o rfl (Int32.ofNat ((muP 0 1 (sk f l T.1, sk f l T.1, wn f l T.1, T.2.2.2.1, T.2.2.2.2)).1)) rfl ?_
      refine wp_iconst 1 k207_31 (by decide) ?_
      refine wp_iadd k207_32 ?_
      refine wp_cast (show Int32.ofNat ((muP 0 1 (sk f l T.1, sk f l T.1, wn f l T.1, T.2.2.2.1, T.2.2.2.2)).1) + (1 : Int32) = Int32.ofNat (((muP 0 1 (sk f l T.1, sk f l T.1, wn f l T.1, T.2.2.2.1, T.2.2.2.2)).1) + 1) from (Int32.ofNat_add _ 1).symm) ?_
      refine wp_ps11 k207_33 hM.o (((muP 0 1 (sk f l T.1, sk f l T.1, wn f l T.1, T.2.2.2.1, T.2.2.2.2)).1) + 1) rfl ?_
      exact wp_retn k207_36 rfl (by rw [show sgP f l c T = upP (muP (if byt f l (sk f l T.1) = c then 1 else 0) 1 (nxP f l T)) from if_pos c4]; (first | rw [if_pos c14] | rw [if_neg c14]); rfl)
    · refine wp_iconst 1 k207_17 (by decide) ?_
      refine wp_goto k207_18 ?_
      refine wp_iconst 1 k207_22 (by decide) ?_
      refine wp_cvn (st2 := []) k207_23 (e_must hM) (by decide) rfl rfl rfl rfl (by decide) hM.o (by decide) ?_
      refine wp_aload_n k207_26 rfl rfl ?_
      refine wp_dup k207_27 rfl ?_
      refine wp_getI k207_28 (by decide) hM.o rfl (Int32.ofNat ((muP 1 1 (sk f l T.1, sk f l T.1, wn f l T.1, T.2.2.2.1, T.2.2.2.2)).1)) rfl ?_
      refine wp_iconst 1 k207_31 (by decide) ?_
      refine wp_iadd k207_32 ?_
      refine wp_cast (show Int32.ofNat ((muP 1 1 (sk f l T.1, sk f l T.1, wn f l T.1, T.2.2.2.1, T.2.2.2.2)).1) + (1 : Int32) = Int32.ofNat (((muP 1 1 (sk f l T.1, sk f l T.1, wn f l T.1, T.2.2.2.1, T.2.2.2.2)).1) + 1) from (Int32.ofNat_add _ 1).symm) ?_
      refine wp_ps11 k207_33 hM.o (((muP 1 1 (sk f l T.1, sk f l T.1, wn f l T.1, T.2.2.2.1, T.2.2.2.2)).1) + 1) rfl ?_
      exact wp_retn k207_36 rfl (by rw [show sgP f l c T = upP (muP (if byt f l (sk f l T.1) = c then 1 else 0) 1 (nxP f l T)) from if_pos c4]; (first | rw [if_pos c14] | rw [if_neg c14]); rfl)
  · exact wp_retn k207_7 rfl (by rw [show sgP f l c T = T from if_neg c4])
theorem e_isOwn {S : ww_S} {sh : List mm_C} {V : hV} {T : hP} (hM : MS sh) {f : Nat → Int32} {l : Nat} (hT : TX V f l) (ha : T.1 ≤ 2000) : EV S 6 208 [.ref 312] (hH sh (pp V T)) (.inl (some (.int (bI (decide (er T = 0) && owW f l T.1))))) (hH sh (pp V (nxP f l T))) := by
  refine ev_qe P208 rfl ?_
  refine wp_aload_n k208_0 rfl rfl ?_
  refine wp_ldcR k208_1 ?_
  refine wp_cv (st2 := []) k208_3 (e_sees hM hT (by omega) XS6) (by decide) rfl rfl rfl rfl (by decide) hM.o (by decide) ?_
  refine wp_if_ne k208_6 (fun c6 => ?_) (fun c6 => ?_)
  · refine wp_iconst 1 k208_72 (by decide) ?_
    refine wp_goto k208_73 ?_
    exact wp_retz k208_77 rfl (by simp_all [owW, bI_0, bI_n0, bI_1, bI_z]) rfl
  · refine wp_aload_n k208_9 rfl rfl ?_
    refine wp_ldcR k208_10 ?_
    refine wp_cv (st2 := []) k208_12 (e_sees2 hM hT (by omega) XS16) (by decide) rfl rfl rfl rfl (by decide) hM.o (by decide) ?_
    refine wp_if_ne k208_15 (fun c15 => ?_) (fun c15 => ?_)
    · refine wp_iconst 1 k208_72 (by decide) ?_
      refine wp_goto k208_73 ?_
      exact wp_retz k208_77 rfl (by simp_all [owW, bI_0, bI_n0, bI_1, bI_z]) rfl
    · refine wp_aload_n k208_18 rfl rfl ?_
      refine wp_ldcR k208_19 ?_
      refine wp_cv (st2 := []) k208_21 (e_sees2 hM hT (by omega) XS18) (by decide) rfl rfl rfl rfl (by decide) hM.o (by decide) ?_
      refine wp_if_ne k208_24 (fun c24 => ?_) (fun c24 => ?_)
      · refine wp_iconst 1 k208_72 (by decide) ?_
        refine wp_goto k208_73 ?_
        exact wp_retz k208_77 rfl (by simp_all [owW, bI_0, bI_n0, bI_1, bI_z]) rfl
      · refine wp_aload_n k208_27 rfl rfl ?_
        refine wp_ldcR k208_28 ?_
        refine wp_cv (st2 := []) k208_30 (e_sees2 hM hT (by omega) XS8) (by decide) rfl rfl rfl rfl (by decide) hM.o (by decide) ?_
        refine wp_if_ne k208_33 (fun c33 => ?_) (fun c33 => ?_)
        · refine wp_iconst 1 k208_72 (by decide) ?_
          refine wp_goto k208_73 ?_
          exact wp_retz k208_77 rfl (by simp_all [owW, bI_0, bI_n0, bI_1, bI_z]) rfl
        · refine wp_aload_n k208_36 rfl rfl ?_
          refine wp_ldcR k208_37 ?_
          refine wp_cv (st2 := []) k208_39 (e_sees2 hM hT (by omega) XS10) (by decide) rfl rfl rfl rfl (by decide) hM.o (by decide) ?_
          refine wp_if_ne k208_42 (fun c42 => ?_) (fun c42 => ?_)
          · refine wp_iconst 1 k208_72 (by decide) ?_
            refine wp_goto k208_73 ?_
            exact wp_retz k208_77 rfl (by simp_all [owW, bI_0, bI_n0, bI_1, bI_z]) rfl
          · refine wp_aload_n k208_45 rfl rfl ?_
            refine wp_ldcR k208_46 ?_
            refine wp_cv (st2 := []) k208_48 (e_sees2 hM hT (by omega) XS12) (by decide) rfl rfl rfl rfl (by decide) hM.o (by decide) ?_
            refine wp_if_ne k208_51 (fun c51 => ?_) (fun c51 => ?_)
            · refine wp_iconst 1 k208_72 (by decide) ?_
              refine wp_goto k208_73 ?_
              exact wp_retz k208_77 rfl (by simp_all [owW, bI_0, bI_n0, bI_1, bI_z]) rfl
            · refine wp_aload_n k208_54 rfl rfl ?_
              refine wp_ldcR k208_55 ?_
              refine wp_cv (st2 := []) k208_57 (e_sees2 hM hT (by omega) XS14) (by decide) rfl rfl rfl rfl (by decide) hM.o (by decide) ?_
              refine wp_if_ne k208_60 (fun c60 => ?_) (fun c60 => ?_)
              · refine wp_iconst 1 k208_72 (by decide) ?_
                refine wp_goto k208_73 ?_
                exact wp_retz k208_77 rfl (by simp_all [owW, bI_0, bI_n0, bI_1, bI_z]) rfl
              · refine wp_aload_n k208_63 rfl rfl ?_
                refine wp_ldcR k208_64 ?_
                refine wp_cv (st2 := []) k208_66 (e_sees2 hM hT (by omega) XS20) (by decide) rfl rfl rfl rfl (by decide) hM.o (by decide) ?_
                refine wp_if_eq k208_69 (fun c69 => ?_) (fun c69 => ?_)
                · refine wp_iconst 0 k208_76 (by decide) ?_
                  exact wp_retz k208_77 rfl (by simp_all [owW, bI_0, bI_n0, bI_1, bI_z]) rfl
                · refine wp_iconst 1 k208_72 (by decide) ?_
                  refine wp_goto k208_73 ?_
                  exact wp_retz k208_77 rfl (by simp_all [owW, bI_0, bI_n0, bI_1, bI_z]) rfl
theorem e_isOwn2 {S : ww_S} {sh : List mm_C} {V : hV} {T : hP} (hM : MS sh) {f : Nat → Int32} {l : Nat} (hT : TX V f l) (ha : T.1 ≤ 1000) : EV S 6 208 [.ref 312] (hH sh (pp V (nxP f l T))) (.inl (some (.int (bI (decide (er T = 0) && owW f l T.1))))) (hH sh (pp V (nxP f l T))) := by
  have h := e_isOwn (S := S) hM hT (T := nxP f l T) (by have := sk_le f l T.1; have := hT.2.1; show sk f l T.1 ≤ 2000; omega)
  have e1 : nxP f l (nxP f l T) = nxP f l T := by
    unfold nxP wn
    dsimp only
    rw [sk_sk]
  have e2 : owW f l (nxP f l T).1 = owW f l T.1 := by
    show owW f l (sk f l T.1) = owW f l T.1
    unfold owW seW wn
    rw [sk_sk]
  rw [e1, e2] at h
  exact h
theorem e_isWord {S : ww_S} {sh : List mm_C} {V : hV} {T : hP} (hM : MS sh) {f : Nat → Int32} {l : Nat} (hT : TX V f l) (ha : T.1 ≤ 2000) : EV S 3 209 [.ref 312] (hH sh (pp V T)) (.inl (some (.int (bI (decide (er T = 0 ∧ 0 < wn f l T.1)))))) (hH sh (pp V (nxP f l T))) := by
  refine ev_qe P209 rfl ?_
  have hs : sk f l T.1 ≤ 2600 := by
    have := sk_le f l T.1
    have := hT.2.1
    omega
  have hw : wn f l T.1 ≤ 600 := by
    have := wn_le f l T.1
    have := hT.2.1
    omega
  refine wp_aload_n k209_0 rfl rfl ?_
  refine wp_cv (st2 := []) k209_1 (e_nextT hM hT (by omega)) (by decide) rfl rfl rfl rfl (by decide) hM.o (by decide) ?_
  refine wp_istore_n (L1 := [_, _]) k209_4 rfl rfl ?_
  refine wp_aload_n k209_5 rfl rfl ?_
  refine wp_getI k209_6 (by decide) hM.o rfl (T.2.2.2.1) rfl ?_
  refine wp_if_ne k209_9 (fun c9 => ?_) (fun c9 => ?_)
  · refine wp_iconst 0 k209_23 (by decide) ?_
    exact wp_retz k209_24 rfl (by rw [decide_eq_false (fun q => c9 q.1)]; rfl) rfl
  · refine wp_aload_n k209_12 rfl rfl ?_
    refine wp_getI k209_13 (by decide) hM.o rfl (Int32.ofNat (wn f l T.1)) rfl ?_
    refine wp_if_le k209_16 (fun c16 => ?_) (fun c16 => ?_)
    · refine wp_iconst 0 k209_23 (by decide) ?_
      exact wp_retz k209_24 rfl (by rw [decide_eq_false (fun q => c16 (show Int32.ofNat 0 < Int32.ofNat (wn f l T.1) from i_lt q.2 (by omega)))]; rfl) rfl
    · refine wp_iconst 1 k209_19 (by decide) ?_
      refine wp_goto k209_20 ?_
      exact wp_retz k209_24 rfl (by rw [decide_eq_true ⟨c9, (Int32.ofNat_lt_iff_lt (by omega) (by omega)).mp (show Int32.ofNat 0 < Int32.ofNat (wn f l T.1) from c16)⟩]; rfl) rfl
end M6
