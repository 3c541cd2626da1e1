section M9
/-! ===== the reference: formulas read ===== -/
def mkF (f : Nat → Int32) (l a : Nat) : Int32 := if seW f l a 5 39132472205336074639533124620939281039467 = true then 4 else if seW f l a 5 34368519066779144738430796468111364063341 = true then 5 else if seW f l a 3 1992248360424488042593 = true then 6 else if seW f l a 6 160765180144170663739265370759291221489286224281699 = true then 7 else -1
theorem e_made {S : ww_S} {sh : List mm_C} {V : hV} {T : hP} (hM : MS sh) {F : Nat → Int32} {s o bs m : Nat} (hbs : V.1 312 19 = Int32.ofNat bs) (hb : bs + 241 ≤ 5061) (hm : F bs = Int32.ofNat m) (h60 : m ≤ 60) {kd a c : Int32} : EV S 1 219 [.ref 312, .int kd, .int a, .int c] (hH sh (pp (fmV V F s o) T)) (.inl (some (.int (mdF F bs (er T) kd a c).1))) (hH sh (pp (fmV V (mdF F bs (er T) kd a c).2 s o) T)) := by
  refine ev_qe P219 rfl ?_
  have hu : mm_un (F bs) = m := by rw [hm]; exact i_un (by omega)
  refine wp_aload_n k219_0 rfl rfl ?_
  refine wp_getR k219_1 (by decide) hM.o rfl ?_
  refine wp_aload_n k219_4 rfl rfl ?_
  refine wp_getIP k219_5 (by decide) hM.o rfl (by decide) (Int32.ofNat bs) hbs ?_
  refine wp_ialoadP k219_8 (by decide) (hM.a320) (i_inO (by omega) (by decide)) (bs) (i_un (by omega)) (by decide) (Int32.ofNat m) hm ?_
  refine wp_istore (L1 := [_, _, _, _, _, _]) k219_9 rfl rfl ?_
  refine wp_aload_n k219_11 rfl rfl ?_
  refine wp_getI k219_12 (by decide) hM.o rfl (T.2.2.2.1) rfl ?_
  refine wp_if_ne k219_15 (fun c15 => ?_) (fun c15 => ?_)
  · refine wp_iconst 0 k219_25 (by decide) ?_
    exact wp_reti k219_26 rfl (by rw [show mdF F bs (er T) kd a c = (0, F) from if_neg (fun q => c15 q.1)]) (by rw [show mdF F bs (er T) kd a c = (0, F) from if_neg (fun q => c15 q.1)])
  · refine wp_iload k219_18 rfl rfl ?_
    refine wp_bipush 60 k219_20 (by decide) ?_
    refine wp_if_icmp_lt k219_22 (fun c22 => ?_) (fun c22 => ?_)
    · refine wp_aload_n k219_27 rfl rfl ?_
      refine wp_getIP k219_28 (by decide) hM.o rfl (by decide) (Int32.ofNat bs) hbs ?_
      refine wp_iconst 1 k219_31 (by decide) ?_
      refine wp_iadd k219_32 ?_
      refine wp_cast (show Int32.ofNat (bs) + (1 : Int32) = Int32.ofNat (bs + 1) from (Int32.ofNat_add _ 1).symm) ?_
      refine wp_iconst 4 k219_33 (by decide) ?_
      refine wp_iload k219_34 rfl rfl ?_
      refine wp_imul k219_36 ?_
      refine wp_cast (show (4 : Int32) * Int32.ofNat (m) = Int32.ofNat (4 * m) from (Int32.ofNat_mul 4 _).symm) ?_
      refine wp_iadd k219_37 ?_
      refine wp_cast (i_add _ _) ?_
      refine wp_istore (L1 := [_, _, _, _, _, _]) k219_38 rfl rfl ?_
      refine wp_aload_n k219_40 rfl rfl ?_
      refine wp_getR k219_41 (by decide) hM.o rfl ?_
      refine wp_iload k219_44 rfl rfl ?_
      refine wp_iload_n k219_46 rfl rfl ?_
      refine wp_iastoreP k219_47 (by decide) (hM.a320) (by have h9 : m < 60 := (Int32.ofNat_lt_iff_lt (a := m) (b := 60) (by omega) (by decide)).mp c22; exact i_inO (by omega) (by decide)) ((bs + 1) + (4 * m)) (i_un (by omega)) (by decide) ?_
      refine wp_aload_n k219_48 rfl rfl ?_
      refine wp_getR k219_49 (by decide) hM.o rfl ?_
      refine wp_iload k219_52 rfl rfl ?_
      refine wp_iconst 1 k219_54 (by decide) ?_
      refine wp_iadd k219_55 ?_
      refine wp_cast (show Int32.ofNat ((bs + 1) + (4 * m)) + (1 : Int32) = Int32.ofNat (((bs + 1) + (4 * m)) + 1) from (Int32.ofNat_add _ 1).symm) ?_
      refine wp_iload_n k219_56 rfl rfl ?_
      refine wp_iastoreP k219_57 (by decide) (hM.a320) (by have h9 : m < 60 := (Int32.ofNat_lt_iff_lt (a := m) (b := 60) (by omega) (by decide)).mp c22; exact i_inO (by omega) (by decide)) (((bs + 1) + (4 * m)) + 1) (i_un (by omega)) (by decide) ?_
      refine wp_aload_n k219_58 rfl rfl ?_
      refine wp_getR k219_59 (by decide) hM.o rfl ?_
      refine wp_iload k219_62 rfl rfl ?_
      refine wp_iconst 2 k219_64 (by decide) ?_
      refine wp_iadd k219_65 ?_
      refine wp_cast (show Int32.ofNat ((bs + 1) + (4 * m)) + (2 : Int32) = Int32.ofNat (((bs + 1) + (4 * m)) + 2) from (Int32.ofNat_add _ 2).symm) ?_
      refine wp_iload_n k219_66 rfl rfl ?_
      refine wp_iastoreP k219_67 (by decide) (hM.a320) (by have h9 : m < 60 := (Int32.ofNat_lt_iff_lt (a := m) (b := 60) (by omega) (by decide)).mp c22; exact i_inO (by omega) (by decide)) (((bs + 1) + (4 * m)) + 2) (i_un (by omega)) (by decide) ?_
      refine wp_aload_n k219_68 rfl rfl ?_
      refine wp_getR k219_69 (by decide) hM.o rfl ?_
      refine wp_aload_n k219_72 rfl rfl ?_
      refine wp_getIP k219_73 (by decide) hM.o rfl (by decide) (Int32.ofNat bs) (by rw [up_ne _ _ (Or.inl (by decide)), up_ne _ _ (Or.inl (by decide)), up_ne _ _ (Or.inl (by decide))]; exact hbs) ?_
      refine wp_dup2 k219_76 rfl rfl ?_
      refine wp_ialoadP k219_77 (by decide) (hM.a320) (i_inO (by omega) (by decide)) (bs) (i_un (by omega)) (by decide) (Int32.ofNat m) (by rw [up_ne _ _ (Or.inr (by omega)), up_ne _ _ (Or.inr (by omega)), up_ne _ _ (Or.inr (by omega))]; exact hm) ?_
      refine wp_iconst 1 k219_78 (by decide) ?_
      refine wp_iadd k219_79 ?_
      refine wp_cast (show Int32.ofNat (m) + (1 : Int32) = Int32.ofNat (m + 1) from (Int32.ofNat_add _ 1).symm) ?_
      refine wp_iastoreP k219_80 (by decide) (hM.a320) (i_inO (by omega) (by decide)) (bs) (i_un (by omega)) (by decide) ?_
      refine wp_iload k219_81 rfl rfl ?_
      have hR : mdF F bs (er T) kd a c = (F bs, fun j => if j = bs then F bs + 1 else if j = bs + 1 + 4 * mm_un (F bs) + 2 then c else if j = bs + 1 + 4 * mm_un (F bs) + 1 then a else if j = bs + 1 + 4 * mm_un (F bs) then kd else F j) := if_pos ⟨c15, by rw [hu]; exact (Int32.ofNat_lt_iff_lt (a := m) (b := 60) (by omega) (by decide)).mp c22⟩
      rw [fm_F, fm_F, fm_F, fm_F]
      exact wp_reti k219_83 rfl (by rw [hR, hm]) (by rw [hR, hu, hm, i_succ])
    · refine wp_iconst 0 k219_25 (by decide) ?_
      have hR : mdF F bs (er T) kd a c = (0, F) := if_neg (fun q => by
        rw [hu] at q
        exact c22 ((Int32.ofNat_lt_iff_lt (a := m) (b := 60) (by omega) (by decide)).mpr q.2))
      exact wp_reti k219_26 rfl (by rw [hR]) (by rw [hR])
theorem e_modal {S : ww_S} {sh : List mm_C} {V : hV} {T : hP} (hM : MS sh) {f : Nat → Int32} {l : Nat} (hT : TX V f l) (ha : T.1 ≤ 1000) (h0 : er T = 0) : EV S 6 220 [.ref 312] (hH sh (pp V (nxP f l T))) (.inl (some (.int (mkF f l T.1)))) (hH sh (pp V (nxP f l T))) := by
  refine ev_qe P220 rfl ?_
  have ht : ∀ {b : Bool}, ¬ bI (decide (T.2.2.2.1 = 0) && b) = 0 → b = true := fun q => by
    have h9 := bI_n0.mp q
    rw [Bool.and_eq_true] at h9
    exact h9.2
  have hf : ∀ {b : Bool}, bI (decide (T.2.2.2.1 = 0) && b) = 0 → ¬ b = true := fun q q2 => by
    have h9 := bI_0.mp q
    rw [q2, show T.2.2.2.1 = 0 from h0] at h9
    exact absurd h9 (by decide)
  refine wp_aload_n k220_0 rfl rfl ?_
  refine wp_ldcR k220_1 ?_
  refine wp_cv (st2 := []) k220_3 (e_sees2 (a := T.1) (e := T.2.2.2.1) (ea := T.2.2.2.2) hM hT (by omega) XS8) (by decide) rfl rfl rfl rfl (by decide) hM.o (by decide) ?_
  refine wp_if_eq k220_6 (fun c6 => ?_) (fun c6 => ?_)
  · refine wp_aload_n k220_11 rfl rfl ?_
    refine wp_ldcR k220_12 ?_
    refine wp_cv (st2 := []) k220_14 (e_sees2 (a := T.1) (e := T.2.2.2.1) (ea := T.2.2.2.2) hM hT (by omega) XS10) (by decide) rfl rfl rfl rfl (by decide) hM.o (by decide) ?_
    refine wp_if_eq k220_17 (fun c17 => ?_) (fun c17 => ?_)
    · refine wp_aload_n k220_22 rfl rfl ?_
      refine wp_ldcR k220_23 ?_
      refine wp_cv (st2 := []) k220_25 (e_sees2 (a := T.1) (e := T.2.2.2.1) (ea := T.2.2.2.2) hM hT (by omega) XS12) (by decide) rfl rfl rfl rfl (by decide) hM.o (by decide) ?_
      refine wp_if_eq k220_28 (fun c28 => ?_) (fun c28 => ?_)
      · refine wp_aload_n k220_34 rfl rfl ?_
        refine wp_ldcR k220_35 ?_
        refine wp_cv (st2 := []) k220_37 (e_sees2 (a := T.1) (e := T.2.2.2.1) (ea := T.2.2.2.2) hM hT (by omega) XS14) (by decide) rfl rfl rfl rfl (by decide) hM.o (by decide) ?_
        refine wp_if_eq k220_40 (fun c40 => ?_) (fun c40 => ?_)
        · refine wp_iconst (-1) k220_48 (by decide) ?_
          exact wp_reti k220_49 rfl (by unfold mkF; rw [if_neg (hf c6), if_neg (hf c17), if_neg (hf c28), if_neg (hf c40)]) rfl
        · refine wp_bipush 7 k220_43 (by decide) ?_
          refine wp_goto k220_45 ?_
          exact wp_reti k220_49 rfl (by unfold mkF; rw [if_neg (hf c6), if_neg (hf c17), if_neg (hf c28), if_pos (ht c40)]) rfl
      · refine wp_bipush 6 k220_31 (by decide) ?_
        exact wp_reti k220_33 rfl (by unfold mkF; rw [if_neg (hf c6), if_neg (hf c17), if_pos (ht c28)]) rfl
    · refine wp_iconst 5 k220_20 (by decide) ?_
      exact wp_reti k220_21 rfl (by unfold mkF; rw [if_neg (hf c6), if_pos (ht c17)]) rfl
  · refine wp_iconst 4 k220_9 (by decide) ?_
    exact wp_reti k220_10 rfl (by unfold mkF; rw [if_pos (ht c6)]) rfl
/-- nodes, how many were seen, how many parentheses are open, where the reading is -/
abbrev hQ : Type := (Nat → Int32) × Nat × Nat × hP
abbrev hR : Type := Nat → Int32 → hQ → Int32 × hQ
section RD
variable (G f : Nat → Int32) (l bs : Nat) (pl : Bool) (np nf : Nat)
def mkQ (q : hQ) (kd a c : Int32) : Int32 × hQ := ((mdF q.1 bs (er q.2.2.2) kd a c).1, (mdF q.1 bs (er q.2.2.2) kd a c).2, q.2.1, q.2.2.1, q.2.2.2)
def inQ (R : hR) (q : hQ) : Int32 × hQ := if er (muP (if q.2.2.1 < 8 then 1 else 0) 1 q.2.2.2) = 0 then ((R 2 0 (q.1, q.2.1, q.2.2.1 + 1, upP (muP (if q.2.2.1 < 8 then 1 else 0) 1 q.2.2.2))).1, (R 2 0 (q.1, q.2.1, q.2.2.1 + 1, upP (muP (if q.2.2.1 < 8 then 1 else 0) 1 q.2.2.2))).2.1, (R 2 0 (q.1, q.2.1, q.2.2.1 + 1, upP (muP (if q.2.2.1 < 8 then 1 else 0) 1 q.2.2.2))).2.2.1, (R 2 0 (q.1, q.2.1, q.2.2.1 + 1, upP (muP (if q.2.2.1 < 8 then 1 else 0) 1 q.2.2.2))).2.2.2.1 - 1, sgP f l 41 (R 2 0 (q.1, q.2.1, q.2.2.1 + 1, upP (muP (if q.2.2.1 < 8 then 1 else 0) 1 q.2.2.2))).2.2.2.2) else (0, q.1, q.2.1, q.2.2.1, muP (if q.2.2.1 < 8 then 1 else 0) 1 q.2.2.2)
def ntQ (R : hR) (q : hQ) : Int32 × hQ := if er (coP q.2.1 q.2.2.2) = 0 then mkQ bs (R 0 0 (q.1, q.2.1 + 1, q.2.2.1, goP (coP q.2.1 q.2.2.2))).2 1 (R 0 0 (q.1, q.2.1 + 1, q.2.2.1, goP (coP q.2.1 q.2.2.2))).1 0 else (0, q.1, q.2.1 + 1, q.2.2.1, coP q.2.1 q.2.2.2)
def mlT (k : Int32) (q : hQ) : hP := coP q.2.1 (muP (if pl = true then 0 else 1) 1 q.2.2.2)
def mlK (k : Int32) (q : hQ) : Int32 × hP := if k = 4 ∨ k = 5 then knP G f l 115 np (goP (mlT pl k q)) else (0, goP (mlT pl k q))
def mlQ (R : hR) (k : Int32) (q : hQ) : Int32 × hQ := if er (mlT pl k q) = 0 then mkQ bs (R 0 0 (q.1, q.2.1 + 1, q.2.2.1, (mlK G f l pl np k q).2)).2 k (R 0 0 (q.1, q.2.1 + 1, q.2.2.1, (mlK G f l pl np k q).2)).1 (mlK G f l pl np k q).1 else (0, q.1, q.2.1 + 1, q.2.2.1, mlT pl k q)
def fcQ (q : hQ) : Int32 × hQ := mkQ bs (q.1, q.2.1 + 1, q.2.2.1, coP q.2.1 (knP G f l 80 nf q.2.2.2).2) 0 (knP G f l 80 nf q.2.2.2).1 0
def nxQ (q : hQ) : hQ := (q.1, q.2.1, q.2.2.1, nxP f l q.2.2.2)
def itQ (R : hR) (q : hQ) : Int32 × hQ := if er q.2.2.2 = 0 then (if byt f l (sk f l q.2.2.2.1) = 40 then inQ f l R (nxQ f l q) else if seW f l q.2.2.2.1 3 2139822313027049357422 = true then ntQ bs R (nxQ f l q) else if mkF f l q.2.2.2.1 = -1 then fcQ G f l bs nf (nxQ f l q) else mlQ G f l bs pl np R (mkF f l q.2.2.2.1) (nxQ f l q)) else (0, q)
def ptQ (R : hR) (q : hQ) : Int32 × hQ := R 3 (R 0 0 q).1 (R 0 0 q).2
def alQ (R : hR) (q : hQ) : Int32 × hQ := R 4 (R 1 0 q).1 (R 1 0 q).2
def jnQ (R : hR) (n N md lp : Nat) (kd k : Int32) (q : hQ) : Int32 × hQ := if seB f l q.2.2.2 n N = true then (if er (coP q.2.1 (nxP f l q.2.2.2)) = 0 then R lp (mkQ bs (R md 0 (q.1, q.2.1 + 1, q.2.2.1, goP (coP q.2.1 (nxP f l q.2.2.2)))).2 kd k (R md 0 (q.1, q.2.1 + 1, q.2.2.1, goP (coP q.2.1 (nxP f l q.2.2.2)))).1).1 (mkQ bs (R md 0 (q.1, q.2.1 + 1, q.2.2.1, goP (coP q.2.1 (nxP f l q.2.2.2)))).2 kd k (R md 0 (q.1, q.2.1 + 1, q.2.2.1, goP (coP q.2.1 (nxP f l q.2.2.2)))).1).2 else (0, q.1, q.2.1 + 1, q.2.2.1, coP q.2.1 (nxP f l q.2.2.2))) else (k, nxQ f l q)
def rd : Nat → hR
  | 0, _, _, q => (0, q)
  | g + 1, md, k, q => match md with
    | 0 => itQ G f l bs pl np nf (rd g) q
    | 1 => ptQ (rd g) q
    | 2 => alQ (rd g) q
    | 3 => jnQ f l bs (rd g) 3 1844674407843401564257 0 3 2 k q
    | _ => jnQ f l bs (rd g) 2 489626271855 1 4 3 k q
end RD
end M9
