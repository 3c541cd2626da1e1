section M4
/-! ===== the program's texts ===== -/
theorem XS.lt {k n N : Nat} (h : XS k n N) : k < 64 := Nat.lt_of_lt_of_le h.1 (by decide)
theorem XS.b0 {k n N : Nat} (_ : XS k n N) : Nat.beq (k + 1) 0 = false := rfl
theorem XS.b1 {k n N : Nat} (h : XS k n N) : Nat.ble 64 (k + 1) = false := Bool.eq_false_iff.mpr fun e => by have := Nat.le_of_ble_eq_true e; have := h.1; omega
theorem XS4 : XS 4 16 349635837658649969110813646319920011331599868708158033788389765419809680947795193822058901992890350036593274502577166448049005564729822650860306534 := ⟨by decide, rfl, rfl, by decide⟩
theorem XS6 : XS 6 3 2139822313027049357422 := ⟨by decide, rfl, rfl, by decide⟩
theorem XS8 : XS 8 5 39132472205336074639533124620939281039467 := ⟨by decide, rfl, rfl, by decide⟩
theorem XS10 : XS 10 5 34368519066779144738430796468111364063341 := ⟨by decide, rfl, rfl, by decide⟩
theorem XS12 : XS 12 3 1992248360424488042593 := ⟨by decide, rfl, rfl, by decide⟩
theorem XS14 : XS 14 6 160765180144170663739265370759291221489286224281699 := ⟨by decide, rfl, rfl, by decide⟩
theorem XS16 : XS 16 3 1844674407843401564257 := ⟨by decide, rfl, rfl, by decide⟩
theorem XS18 : XS 18 2 489626271855 := ⟨by decide, rfl, rfl, by decide⟩
theorem XS20 : XS 20 4 9190466853443997336447601344628 := ⟨by decide, rfl, rfl, by decide⟩
theorem XS22 : XS 22 5 39132472205098390151768970679218299994214 := ⟨by decide, rfl, rfl, by decide⟩
theorem XS24 : XS 24 3 2195162545188048470124 := ⟨by decide, rfl, rfl, by decide⟩
theorem XS26 : XS 26 6 160765180144170663739740739734469041235173086068848 := ⟨by decide, rfl, rfl, by decide⟩
theorem XS28 : XS 28 4 8556641553329882635686364840050 := ⟨by decide, rfl, rfl, by decide⟩
theorem XS30 : XS 30 5 10889035749392847084283563045695640305696 := ⟨by decide, rfl, rfl, by decide⟩
theorem XS32 : XS 32 4 2535301202559387627873036664864 := ⟨by decide, rfl, rfl, by decide⟩
theorem XS34 : XS 34 1 41 := ⟨by decide, rfl, rfl, by decide⟩
theorem XS36 : XS 36 8 2722954614003647691225415099554938208875860019735849454146537387982945 := ⟨by decide, rfl, rfl, by decide⟩
theorem XS38 : XS 38 3 2232056033335467573363 := ⟨by decide, rfl, rfl, by decide⟩
theorem XS40 : XS 40 7 715589597981693272485812814088502486138988368637950894801015 := ⟨by decide, rfl, rfl, by decide⟩
theorem XS42 : XS 42 4 9428151341245044766260166918259 := ⟨by decide, rfl, rfl, by decide⟩
theorem XS44 : XS 44 5 34028236700808944225064806935567414591602 := ⟨by decide, rfl, rfl, by decide⟩
theorem XS46 : XS 46 2 137438953592 := ⟨by decide, rfl, rfl, by decide⟩
theorem XS48 : XS 48 4 2535301202596281116020455768174 := ⟨by decide, rfl, rfl, by decide⟩
theorem XS50 : XS 50 6 46768052433721365587853989286454181249929122414699 := ⟨by decide, rfl, rfl, by decide⟩
theorem XS52 : XS 52 6 46768052428957412449297059385351853097101205438573 := ⟨by decide, rfl, rfl, by decide⟩
theorem XS54 : XS 54 4 2535301202448707163417894453345 := ⟨by decide, rfl, rfl, by decide⟩
theorem XS56 : XS 56 7 200867255693138964586915925281910696074566595712135328694371 := ⟨by decide, rfl, rfl, by decide⟩
theorem e_coder {S : ww_S} {h : mm_H} {k n N : Nat} (hx : XS k n N) : EV S 1 366 [.ref k] h (.inl (some (.int 0))) h := by
  refine ev_qe P366 rfl ?_
  refine wp_getstatic k366_0 rfl ?_
  refine wp_if_eq_F k366_3 (by decide) ?_
  refine wp_aload_n k366_6 rfl rfl ?_
  refine wp_getx k366_7 hx.lt hx.2.1 rfl ?_
  refine wp_goto k366_10 ?_
  exact wp_retb k366_14 rfl rfl rfl rfl
theorem e_slen {S : ww_S} {h : mm_H} {k n N : Nat} (hx : XS k n N) : EV S 2 362 [.ref k] h (.inl (some (.int (Int32.ofNat n)))) h := by
  refine ev_qe P362 rfl ?_
  refine wp_aload_n k362_0 rfl rfl ?_
  refine wp_getx k362_1 hx.lt hx.2.1 rfl ?_
  refine wp_alenx k362_4 rfl hx.b0 hx.b1 hx.2.2.1 ?_
  refine wp_aload_n k362_5 rfl rfl ?_
  refine wp_cvx (st2 := [_]) k362_6 (e_coder hx) (by decide) rfl rfl rfl rfl hx.lt hx.2.1 (by decide) ?_
  refine wp_ishr k362_9 ?_
  exact wp_reti k362_10 rfl (by rw [show (0 : Int32) &&& 31 = 0 from rfl]; simp) rfl
theorem e_latin {S : ww_S} {h : mm_H} {k n N : Nat} (hx : XS k n N) : EV S 1 367 [.ref k] h (.inl (some (.int (bI true)))) h := by
  refine ev_qe P367 rfl ?_
  refine wp_getstatic k367_0 rfl ?_
  refine wp_if_eq_F k367_3 (by decide) ?_
  refine wp_aload_n k367_6 rfl rfl ?_
  refine wp_getx k367_7 hx.lt hx.2.1 rfl ?_
  refine wp_if_ne_F k367_10 rfl ?_
  refine wp_iconst 1 k367_13 (by decide) ?_
  refine wp_goto k367_14 ?_
  exact wp_retz k367_18 rfl rfl rfl
theorem e_preck {S : ww_S} {h : mm_H} {i n : Int32} {q : Nat} (h0 : ¬ i < 0) (h1 : i < n) : EV S 1 410 [.int i, .int n, .ref q] h (.inl (some (.int i))) h := by
  refine ev_qe P410 rfl ?_
  refine wp_iload_n k410_0 rfl rfl ?_
  refine wp_if_lt_F k410_1 h0 ?_
  refine wp_iload_n k410_4 rfl rfl ?_
  refine wp_iload_n k410_5 rfl rfl ?_
  refine wp_if_icmp_lt_T k410_6 h1 ?_
  refine wp_iload_n k410_16 rfl rfl ?_
  exact wp_reti k410_17 rfl rfl rfl
theorem e_ck {S : ww_S} {h : mm_H} {i n : Int32} (h0 : ¬ i < 0) (h1 : i < n) : EV S 2 368 [.int i, .int n] h (.inl none) h := by
  refine ev_qe P368 rfl ?_
  refine wp_iload_n k368_0 rfl rfl ?_
  refine wp_iload_n k368_1 rfl rfl ?_
  refine wp_getstatic k368_2 rfl ?_
  refine wp_cs (st2 := []) k368_5 (e_preck h0 h1) (by decide) rfl rfl rfl (by decide) ?_
  refine wp_pop k368_8 rfl ?_
  exact wp_retn k368_9 rfl rfl
theorem e_lchar {S : ww_S} {h : mm_H} {k n N i : Nat} (hx : XS k n N) (hn : n ≤ 1000) (hi : i < n) : EV S 3 380 [.ref (k + 1), .int (Int32.ofNat i)] h (.inl (some (.int (chr N i)))) h := by
  refine ev_qe P380 rfl ?_
  refine wp_iload_n k380_0 rfl rfl ?_
  refine wp_aload_n k380_1 rfl rfl ?_
  refine wp_alenx k380_2 rfl hx.b0 hx.b1 hx.2.2.1 ?_
  refine wp_csn (st2 := []) k380_3 (e_ck (show ¬ Int32.ofNat i < Int32.ofNat 0 from i_nlt (Nat.zero_le i) (by omega)) (i_lt hi (by omega))) (by decide) rfl rfl rfl (by decide) ?_
  refine wp_aload_n k380_6 rfl rfl ?_
  refine wp_iload_n k380_7 rfl rfl ?_
  refine wp_baloadx k380_8 hx.b1 hx.2.2.1 (i_inO hi (by omega)) (i) (i_un (by omega)) ?_
  refine wp_sipush 255 k380_9 (by decide) ?_
  refine wp_iand k380_12 ?_
  refine wp_i2c k380_13 ?_
  exact wp_retc k380_14 rfl rfl (i_char _) rfl
theorem e_char {S : ww_S} {h : mm_H} {k n N i : Nat} (hx : XS k n N) (hi : i < n) : EV S 4 363 [.ref k, .int (Int32.ofNat i)] h (.inl (some (.int (chr N i)))) h := by
  refine ev_qe P363 rfl ?_
  refine wp_aload_n k363_0 rfl rfl ?_
  refine wp_cvx (st2 := []) k363_1 (e_latin hx) (by decide) rfl rfl rfl rfl hx.lt hx.2.1 (by decide) ?_
  refine wp_if_eq_F k363_4 (by decide) ?_
  refine wp_aload_n k363_7 rfl rfl ?_
  refine wp_getx k363_8 hx.lt hx.2.1 rfl ?_
  refine wp_iload_n k363_11 rfl rfl ?_
  refine wp_cs (st2 := []) k363_12 (e_lchar hx hx.2.2.2 hi) (by decide) rfl rfl rfl (by decide) ?_
  exact wp_retc k363_15 rfl rfl (i_char _) rfl
/-! ===== the state of reading: where, where the word begins, how long it is, error, its place ===== -/
def ps (V : hV) (a b w : Nat) (e ea : Int32) : hV := ovr V 312 (fun j => if j = 11 then some (Int32.ofNat a) else if j = 12 then some (Int32.ofNat b) else if j = 13 then some (Int32.ofNat w) else if j = 14 then some e else if j = 15 then some ea else none)
theorem ps_11 (V : hV) (a b w : Nat) (e ea : Int32) (z : Nat) : up (ps V a b w e ea) 312 11 (Int32.ofNat z) = ps V z b w e ea := by
  unfold ps
  rw [ovr_up]
  congr 1
  funext j
  by_cases h : j = 11
  · subst h; rfl
  · rw [if_neg h]
    by_cases h1 : j = 11
    · subst h1; first | rfl | exact absurd rfl h
    by_cases h2 : j = 12
    · subst h2; first | rfl | exact absurd rfl h
    by_cases h3 : j = 13
    · subst h3; first | rfl | exact absurd rfl h
    by_cases h4 : j = 14
    · subst h4; first | rfl | exact absurd rfl h
    by_cases h5 : j = 15
    · subst h5; first | rfl | exact absurd rfl h
    simp only [if_neg h1, if_neg h2, if_neg h3, if_neg h4, if_neg h5]
theorem wp_ps11 {S : ww_S} {D : Nat} {M : mm_M} {pc p9 nx : Nat} {L : mm_L} {st : List Value} {Q : mm_V → mm_H → Prop} {sh : List mm_C} {V : hV} {a b w : Nat} {e ea x : Int32} {u n0 : Nat} {r : List Nat} (hk : mm_lk M.1 pc = some (p9, .putfield u, nx, n0 :: 14 :: 11 :: r)) (hM : sh[312 - 64]? = some mo_o) (z : Nat) (hx : x = Int32.ofNat z) (k : WP S D M nx L st (hH sh (ps V z b w e ea)) Q) : WP S D M pc L (.int x :: .ref 312 :: st) (hH sh (ps V a b w e ea)) Q := by
  refine wp_putI hk (by decide) hM rfl rfl rfl ?_
  rw [hx, ps_11]
  exact k
theorem ps_12 (V : hV) (a b w : Nat) (e ea : Int32) (z : Nat) : up (ps V a b w e ea) 312 12 (Int32.ofNat z) = ps V a z w e ea := by
  unfold ps
  rw [ovr_up]
  congr 1
  funext j
  by_cases h : j = 12
  · subst h; rfl
  · rw [if_neg h]
    by_cases h1 : j = 11
    · subst h1; first | rfl | exact absurd rfl h
    by_cases h2 : j = 12
    · subst h2; first | rfl | exact absurd rfl h
    by_cases h3 : j = 13
    · subst h3; first | rfl | exact absurd rfl h
    by_cases h4 : j = 14
    · subst h4; first | rfl | exact absurd rfl h
    by_cases h5 : j = 15
    · subst h5; first | rfl | exact absurd rfl h
    simp only [if_neg h1, if_neg h2, if_neg h3, if_neg h4, if_neg h5]
theorem wp_ps12 {S : ww_S} {D : Nat} {M : mm_M} {pc p9 nx : Nat} {L : mm_L} {st : List Value} {Q : mm_V → mm_H → Prop} {sh : List mm_C} {V : hV} {a b w : Nat} {e ea x : Int32} {u n0 : Nat} {r : List Nat} (hk : mm_lk M.1 pc = some (p9, .putfield u, nx, n0 :: 14 :: 12 :: r)) (hM : sh[312 - 64]? = some mo_o) (z : Nat) (hx : x = Int32.ofNat z) (k : WP S D M nx L st (hH sh (ps V a z w e ea)) Q) : WP S D M pc L (.int x :: .ref 312 :: st) (hH sh (ps V a b w e ea)) Q := by
  refine wp_putI hk (by decide) hM rfl rfl rfl ?_
  rw [hx, ps_12]
  exact k
theorem ps_13 (V : hV) (a b w : Nat) (e ea : Int32) (z : Nat) : up (ps V a b w e ea) 312 13 (Int32.ofNat z) = ps V a b z e ea := by
  unfold ps
  rw [ovr_up]
  congr 1
  funext j
  by_cases h : j = 13
  · subst h; rfl
  · rw [if_neg h]
    by_cases h1 : j = 11
    · subst h1; first | rfl | exact absurd rfl h
    by_cases h2 : j = 12
    · subst h2; first | rfl | exact absurd rfl h
    by_cases h3 : j = 13
    · subst h3; first | rfl | exact absurd rfl h
    by_cases h4 : j = 14
    · subst h4; first | rfl | exact absurd rfl h
    by_cases h5 : j = 15
    · subst h5; first | rfl | exact absurd rfl h
    simp only [if_neg h1, if_neg h2, if_neg h3, if_neg h4, if_neg h5]
theorem wp_ps13 {S : ww_S} {D : Nat} {M : mm_M} {pc p9 nx : Nat} {L : mm_L} {st : List Value} {Q : mm_V → mm_H → Prop} {sh : List mm_C} {V : hV} {a b w : Nat} {e ea x : Int32} {u n0 : Nat} {r : List Nat} (hk : mm_lk M.1 pc = some (p9, .putfield u, nx, n0 :: 14 :: 13 :: r)) (hM : sh[312 - 64]? = some mo_o) (z : Nat) (hx : x = Int32.ofNat z) (k : WP S D M nx L st (hH sh (ps V a b z e ea)) Q) : WP S D M pc L (.int x :: .ref 312 :: st) (hH sh (ps V a b w e ea)) Q := by
  refine wp_putI hk (by decide) hM rfl rfl rfl ?_
  rw [hx, ps_13]
  exact k
theorem ps_14 (V : hV) (a b w : Nat) (e ea : Int32) (z : Int32) : up (ps V a b w e ea) 312 14 z = ps V a b w z ea := by
  unfold ps
  rw [ovr_up]
  congr 1
  funext j
  by_cases h : j = 14
  · subst h; rfl
  · rw [if_neg h]
    by_cases h1 : j = 11
    · subst h1; first | rfl | exact absurd rfl h
    by_cases h2 : j = 12
    · subst h2; first | rfl | exact absurd rfl h
    by_cases h3 : j = 13
    · subst h3; first | rfl | exact absurd rfl h
    by_cases h4 : j = 14
    · subst h4; first | rfl | exact absurd rfl h
    by_cases h5 : j = 15
    · subst h5; first | rfl | exact absurd rfl h
    simp only [if_neg h1, if_neg h2, if_neg h3, if_neg h4, if_neg h5]
theorem wp_ps14 {S : ww_S} {D : Nat} {M : mm_M} {pc p9 nx : Nat} {L : mm_L} {st : List Value} {Q : mm_V → mm_H → Prop} {sh : List mm_C} {V : hV} {a b w : Nat} {e ea x : Int32} {u n0 : Nat} {r : List Nat} (hk : mm_lk M.1 pc = some (p9, .putfield u, nx, n0 :: 14 :: 14 :: r)) (hM : sh[312 - 64]? = some mo_o) (z : Int32) (hx : x = z) (k : WP S D M nx L st (hH sh (ps V a b w z ea)) Q) : WP S D M pc L (.int x :: .ref 312 :: st) (hH sh (ps V a b w e ea)) Q := by
  refine wp_putI hk (by decide) hM rfl rfl rfl ?_
  rw [hx, ps_14]
  exact k
theorem ps_15 (V : hV) (a b w : Nat) (e ea : Int32) (z : Int32) : up (ps V a b w e ea) 312 15 z = ps V a b w e z := by
  unfold ps
  rw [ovr_up]
  congr 1
  funext j
  by_cases h : j = 15
  · subst h; rfl
  · rw [if_neg h]
    by_cases h1 : j = 11
    · subst h1; first | rfl | exact absurd rfl h
    by_cases h2 : j = 12
    · subst h2; first | rfl | exact absurd rfl h
    by_cases h3 : j = 13
    · subst h3; first | rfl | exact absurd rfl h
    by_cases h4 : j = 14
    · subst h4; first | rfl | exact absurd rfl h
    by_cases h5 : j = 15
    · subst h5; first | rfl | exact absurd rfl h
    simp only [if_neg h1, if_neg h2, if_neg h3, if_neg h4, if_neg h5]
theorem wp_ps15 {S : ww_S} {D : Nat} {M : mm_M} {pc p9 nx : Nat} {L : mm_L} {st : List Value} {Q : mm_V → mm_H → Prop} {sh : List mm_C} {V : hV} {a b w : Nat} {e ea x : Int32} {u n0 : Nat} {r : List Nat} (hk : mm_lk M.1 pc = some (p9, .putfield u, nx, n0 :: 14 :: 15 :: r)) (hM : sh[312 - 64]? = some mo_o) (z : Int32) (hx : x = z) (k : WP S D M nx L st (hH sh (ps V a b w e z)) Q) : WP S D M pc L (.int x :: .ref 312 :: st) (hH sh (ps V a b w e ea)) Q := by
  refine wp_putI hk (by decide) hM rfl rfl rfl ?_
  rw [hx, ps_15]
  exact k
/-- the byte k of a text of l bytes -/
def byt (f : Nat → Int32) (l k : Nat) : Int32 := if k < l then f k else -1
/-- behind the spaces -/
def skF (f : Nat → Int32) (l : Nat) : Nat → Nat → Nat
  | 0, a => a
  | g + 1, a => if byt f l a = 32 then skF f l g (a + 1) else a
abbrev sk (f : Nat → Int32) (l a : Nat) : Nat := skF f l l a
def ltr (x : Int32) : Bool := decide (97 ≤ x ∧ x ≤ 122)
/-- how many letters -/
def wlF (f : Nat → Int32) (l b : Nat) : Nat → Nat → Nat
  | 0, w => w
  | g + 1, w => if ltr (byt f l (b + w)) = true then wlF f l b g (w + 1) else w
abbrev wl (f : Nat → Int32) (l b : Nat) : Nat := wlF f l b l 0
theorem byt_ge {f : Nat → Int32} {l k : Nat} (h : l ≤ k) : byt f l k = -1 := if_neg (by omega)
theorem ltr_lt {f : Nat → Int32} {l k : Nat} (h : ltr (byt f l k) = true) : k < l := by
  refine Nat.lt_of_not_le fun q => ?_
  rw [byt_ge q] at h
  exact absurd h (by decide)
theorem sp_lt {f : Nat → Int32} {l k : Nat} (h : byt f l k = 32) : k < l := by
  refine Nat.lt_of_not_le fun q => ?_
  rw [byt_ge q] at h
  exact absurd h (by decide)
theorem skF_le (f : Nat → Int32) (l : Nat) : ∀ g a, skF f l g a ≤ a ∨ skF f l g a ≤ l
  | 0, a => Or.inl (Nat.le_refl a)
  | g + 1, a => by
    unfold skF
    split
    · rename_i h
      have := sp_lt h
      rcases skF_le f l g (a + 1) with q | q <;> omega
    · exact Or.inl (Nat.le_refl a)
theorem skF_ge (f : Nat → Int32) (l : Nat) : ∀ g a, a ≤ skF f l g a
  | 0, a => Nat.le_refl a
  | g + 1, a => by
    unfold skF
    split
    · have := skF_ge f l g (a + 1); omega
    · exact Nat.le_refl a
theorem wlF_le (f : Nat → Int32) (l b : Nat) : ∀ g w, wlF f l b g w ≤ w ∨ b + wlF f l b g w ≤ l
  | 0, w => Or.inl (Nat.le_refl w)
  | g + 1, w => by
    unfold wlF
    split
    · rename_i h
      have := ltr_lt h
      rcases wlF_le f l b g (w + 1) with q | q <;> omega
    · exact Or.inl (Nat.le_refl w)
theorem l_le {x y : Int32} : x.toInt64 ≤ y.toInt64 ↔ x ≤ y := by rw [L_nlt, le_nlt, l_lt]
theorem ltr_eq (x : Int32) : decide (Int64.ofNat 97 ≤ x.toInt64 ∧ x.toInt64 ≤ Int64.ofNat 122) = ltr x := by
  unfold ltr
  rw [show Int64.ofNat 97 = (97 : Int32).toInt64 from rfl, show Int64.ofNat 122 = (122 : Int32).toInt64 from rfl]
  simp only [l_le]
def wrE (e c : Int32) : Int32 := if e = 0 then c else e
def wrA (e ea : Int32) (b : Nat) : Int32 := if e = 0 then Int32.ofNat b else ea
def muE (x e c : Int32) : Int32 := if x = 0 then wrE e c else e
def muA (x e ea : Int32) (b : Nat) : Int32 := if x = 0 then wrA e ea b else ea
theorem e_byteAt {S : ww_S} {sh : List mm_C} {V : hV} (hM : MS sh) {l k : Nat} (hl : V.1 312 10 = Int32.ofNat l) (h6 : l ≤ 600) (hk : k ≤ 100000)  : EV S 1 201 [.ref 312, .int (Int32.ofNat k)] (hH sh V) (.inl (some (.int (byt (V.1 319) l k)))) (hH sh (V)) := by
  refine ev_qe P201 rfl ?_
  refine wp_iload_n k201_0 rfl rfl ?_
  refine wp_aload_n k201_1 rfl rfl ?_
  refine wp_getI k201_2 (by decide) hM.o rfl (Int32.ofNat l) hl ?_
  refine wp_if_icmp_ge k201_5 (fun c5 => ?_) (fun c5 => ?_)
  · refine wp_iconst (-1) k201_17 (by decide) ?_
    exact wp_reti k201_18 rfl (by unfold byt; first | exact (if_neg (fun q => c5 (i_lt q (by omega)))).symm | exact (if_pos ((Int32.ofNat_lt_iff_lt (by omega) (by omega)).mp c5)).symm) rfl
  · refine wp_aload_n k201_8 rfl rfl ?_
    refine wp_getR k201_9 (by decide) hM.o rfl ?_
    refine wp_iload_n k201_12 rfl rfl ?_
    refine wp_iaload k201_13 (by decide) (hM.a319) (i_inO (by have := (Int32.ofNat_lt_iff_lt (by omega) (by omega)).mp c5; omega) (by decide)) (k) (i_un (by omega)) _ rfl ?_
    refine wp_goto k201_14 ?_
    exact wp_reti k201_18 rfl (by unfold byt; first | exact (if_neg (fun q => c5 (i_lt q (by omega)))).symm | exact (if_pos ((Int32.ofNat_lt_iff_lt (by omega) (by omega)).mp c5)).symm) rfl
theorem e_byteP {S : ww_S} {sh : List mm_C} {V : hV} {a b w : Nat} {e ea : Int32} (hM : MS sh) {l k : Nat} (hl : V.1 312 10 = Int32.ofNat l) (h6 : l ≤ 600) (hk : k ≤ 100000) : EV S 1 201 [.ref 312, .int (Int32.ofNat k)] (hH sh (ps V a b w e ea)) (.inl (some (.int (byt (V.1 319) l k)))) (hH sh (ps V a b w e ea)) := e_byteAt hM (V := ps V a b w e ea) hl h6 hk
theorem l_next2 {S : ww_S} {sh : List mm_C} {V : hV} {a b : Nat} {e ea : Int32} (hM : MS sh) {l : Nat} (hl : V.1 312 10 = Int32.ofNat l) (h6 : l ≤ 600) (hb : b ≤ 5000) {Q : mm_V → mm_H → Prop} : ∀ (g w : Nat), l ≤ b + w + g → w ≤ 5000 → WP S 1 mm_m202 78 [some (.ref 312)] [] (hH sh (ps V a b (wlF (V.1 319) l b g w) e ea)) Q → WP S 1 mm_m202 39 [some (.ref 312)] [] (hH sh (ps V a b w e ea)) Q := by
  intro g
  induction g with
  | zero =>
    intro w hw h5 K
    have h9 : byt (V.1 319) l (b + w) = -1 := byt_ge (by omega)
    refine wp_aload_n k202_39 rfl rfl ?_
    refine wp_aload_n k202_40 rfl rfl ?_
    refine wp_getI k202_41 (by decide) hM.o rfl (Int32.ofNat (b)) rfl ?_
    refine wp_aload_n k202_44 rfl rfl ?_
    refine wp_getI k202_45 (by decide) hM.o rfl (Int32.ofNat (w)) rfl ?_
    refine wp_iadd k202_48 ?_
    refine wp_cast (i_add _ _) ?_
    refine wp_cv (st2 := []) k202_49 (e_byteP hM hl h6 (show b + w ≤ 100000 by omega)) (by decide) rfl rfl rfl rfl (by decide) hM.o (by decide) ?_
    refine wp_i2l k202_52 ?_
    refine wp_ldc2_w k202_53 ?_
    refine wp_ldc2_w k202_56 ?_
    refine wp_cs (st2 := []) k202_59 (e_in) (by decide) rfl rfl rfl (by decide) ?_
    refine wp_if_eq_T k202_62 (by rw [ltr_eq, h9]; decide) ?_
    exact K
  | succ g ih =>
    intro w hw h5 K
    refine wp_aload_n k202_39 rfl rfl ?_
    refine wp_aload_n k202_40 rfl rfl ?_
    refine wp_getI k202_41 (by decide) hM.o rfl (Int32.ofNat (b)) rfl ?_
    refine wp_aload_n k202_44 rfl rfl ?_
    refine wp_getI k202_45 (by decide) hM.o rfl (Int32.ofNat (w)) rfl ?_
    refine wp_iadd k202_48 ?_
    refine wp_cast (i_add _ _) ?_
    refine wp_cv (st2 := []) k202_49 (e_byteP hM hl h6 (show b + w ≤ 100000 by omega)) (by decide) rfl rfl rfl rfl (by decide) hM.o (by decide) ?_
    refine wp_i2l k202_52 ?_
    refine wp_ldc2_w k202_53 ?_
    refine wp_ldc2_w k202_56 ?_
    refine wp_cs (st2 := []) k202_59 (e_in) (by decide) rfl rfl rfl (by decide) ?_
    refine wp_if_eq k202_62 (fun c62 => ?_) (fun c62 => ?_)
    · rw [ltr_eq] at c62
      rw [show wlF (V.1 319) l b (g + 1) w = w from if_neg (by rw [bI_0.mp c62]; decide)] at K
      exact K
    · refine wp_aload_n k202_65 rfl rfl ?_
      refine wp_dup k202_66 rfl ?_
      refine wp_getI k202_67 (by decide) hM.o rfl (Int32.ofNat (w)) rfl ?_
      refine wp_iconst 1 k202_70 (by decide) ?_
      refine wp_iadd k202_71 ?_
      refine wp_cast (show Int32.ofNat (w) + (1 : Int32) = Int32.ofNat (w + 1) from (Int32.ofNat_add _ 1).symm) ?_
      refine wp_ps13 k202_72 hM.o (w + 1) rfl ?_
      refine wp_goto k202_75 ?_
      rw [ltr_eq] at c62
      have h8 := bI_n0.mp c62
      have h7 := ltr_lt h8
      rw [show wlF (V.1 319) l b (g + 1) w = wlF (V.1 319) l b g (w + 1) from if_pos h8] at K
      exact ih (w + 1) (by omega) (by omega) K
theorem l_next1 {S : ww_S} {sh : List mm_C} {V : hV} {b w : Nat} {e ea : Int32} (hM : MS sh) {l : Nat} (hl : V.1 312 10 = Int32.ofNat l) (h6 : l ≤ 600) {Q : mm_V → mm_H → Prop} : ∀ (g a : Nat), l ≤ a + g → a ≤ 5000 → WP S 1 mm_m202 26 [some (.ref 312)] [] (hH sh (ps V (skF (V.1 319) l g a) b w e ea)) Q → WP S 1 mm_m202 0 [some (.ref 312)] [] (hH sh (ps V a b w e ea)) Q := by
  intro g
  induction g with
  | zero =>
    intro a ha h5 K
    have h9 : byt (V.1 319) l a = -1 := byt_ge (by omega)
    refine wp_aload_n k202_0 rfl rfl ?_
    refine wp_aload_n k202_1 rfl rfl ?_
    refine wp_getI k202_2 (by decide) hM.o rfl (Int32.ofNat (a)) rfl ?_
    refine wp_cv (st2 := []) k202_5 (e_byteP hM hl h6 (show a ≤ 100000 by omega)) (by decide) rfl rfl rfl rfl (by decide) hM.o (by decide) ?_
    refine wp_bipush 32 k202_8 (by decide) ?_
    refine wp_if_icmp_ne_T k202_10 (by rw [h9]; decide) ?_
    exact K
  | succ g ih =>
    intro a ha h5 K
    refine wp_aload_n k202_0 rfl rfl ?_
    refine wp_aload_n k202_1 rfl rfl ?_
    refine wp_getI k202_2 (by decide) hM.o rfl (Int32.ofNat (a)) rfl ?_
    refine wp_cv (st2 := []) k202_5 (e_byteP hM hl h6 (show a ≤ 100000 by omega)) (by decide) rfl rfl rfl rfl (by decide) hM.o (by decide) ?_
    refine wp_bipush 32 k202_8 (by decide) ?_
    refine wp_if_icmp_ne k202_10 (fun c10 => ?_) (fun c10 => ?_)
    · rw [show skF (V.1 319) l (g + 1) a = a from if_neg c10] at K
      exact K
    · refine wp_aload_n k202_13 rfl rfl ?_
      refine wp_dup k202_14 rfl ?_
      refine wp_getI k202_15 (by decide) hM.o rfl (Int32.ofNat (a)) rfl ?_
      refine wp_iconst 1 k202_18 (by decide) ?_
      refine wp_iadd k202_19 ?_
      refine wp_cast (show Int32.ofNat (a) + (1 : Int32) = Int32.ofNat (a + 1) from (Int32.ofNat_add _ 1).symm) ?_
      refine wp_ps11 k202_20 hM.o (a + 1) rfl ?_
      refine wp_goto k202_23 ?_
      have h7 := sp_lt c10
      rw [show skF (V.1 319) l (g + 1) a = skF (V.1 319) l g (a + 1) from if_pos c10] at K
      exact ih (a + 1) (by omega) (by omega) K
theorem e_next {S : ww_S} {sh : List mm_C} {V : hV} {a b w : Nat} {e ea : Int32} (hM : MS sh) {l : Nat} (hl : V.1 312 10 = Int32.ofNat l) (h6 : l ≤ 600) (ha : a ≤ 3000) : EV S 2 202 [.ref 312] (hH sh (ps V a b w e ea)) (.inl (some (.int (byt (V.1 319) l (sk (V.1 319) l a))))) (hH sh (ps V (sk (V.1 319) l a) (sk (V.1 319) l a) (wl (V.1 319) l (sk (V.1 319) l a)) e ea)) := by
  refine ev_qe P202 rfl ?_
  refine l_next1 hM hl h6 l a (by omega) (by omega) ?_
  have hs : skF (V.1 319) l l a ≤ 3600 := by
    rcases skF_le (V.1 319) l l a with q | q <;> omega
  have hs2 : sk (V.1 319) l a ≤ 3600 := hs
  refine wp_aload_n k202_26 rfl rfl ?_
  refine wp_aload_n k202_27 rfl rfl ?_
  refine wp_getI k202_28 (by decide) hM.o rfl (Int32.ofNat ((sk (V.1 319) l a))) rfl ?_
  refine wp_ps12 k202_31 hM.o ((sk (V.1 319) l a)) rfl ?_
  refine wp_aload_n k202_34 rfl rfl ?_
  refine wp_iconst 0 k202_35 (by decide) ?_
  refine wp_ps13 k202_36 hM.o (0) rfl ?_
  refine l_next2 hM hl h6 (by omega) l 0 (by omega) (by omega) ?_
  refine wp_aload_n k202_78 rfl rfl ?_
  refine wp_aload_n k202_79 rfl rfl ?_
  refine wp_getI k202_80 (by decide) hM.o rfl (Int32.ofNat ((sk (V.1 319) l a))) rfl ?_
  refine wp_cv (st2 := []) k202_83 (e_byteP hM hl h6 (show (sk (V.1 319) l a) ≤ 100000 by omega)) (by decide) rfl rfl rfl rfl (by decide) hM.o (by decide) ?_
  exact wp_reti k202_86 rfl rfl rfl
theorem e_wrong {S : ww_S} {sh : List mm_C} {V : hV} {a b w : Nat} {e ea : Int32} (hM : MS sh) {c : Int32} : EV S 1 203 [.ref 312, .int c] (hH sh (ps V a b w e ea)) (.inl none) (hH sh (ps V a b w (wrE e c) (wrA e ea b))) := by
  refine ev_qe P203 rfl ?_
  refine wp_aload_n k203_0 rfl rfl ?_
  refine wp_getI k203_1 (by decide) hM.o rfl (e) rfl ?_
  refine wp_if_eq k203_4 (fun c4 => ?_) (fun c4 => ?_)
  · refine wp_aload_n k203_8 rfl rfl ?_
    refine wp_iload_n k203_9 rfl rfl ?_
    refine wp_ps14 k203_10 hM.o (c) rfl ?_
    refine wp_aload_n k203_13 rfl rfl ?_
    refine wp_aload_n k203_14 rfl rfl ?_
    refine wp_getI k203_15 (by decide) hM.o rfl (Int32.ofNat (b)) rfl ?_
    refine wp_ps15 k203_18 hM.o (Int32.ofNat b) rfl ?_
    exact wp_retn k203_21 rfl (by unfold wrE wrA; simp_all)
  · exact wp_retn k203_7 rfl (by unfold wrE wrA; simp_all)
theorem e_must {S : ww_S} {sh : List mm_C} {V : hV} {a b w : Nat} {e ea : Int32} (hM : MS sh) {x c : Int32} : EV S 2 204 [.ref 312, .int x, .int c] (hH sh (ps V a b w e ea)) (.inl none) (hH sh (ps V a b w (muE x e c) (muA x e ea b))) := by
  refine ev_qe P204 rfl ?_
  refine wp_iload_n k204_0 rfl rfl ?_
  refine wp_if_ne k204_1 (fun c1 => ?_) (fun c1 => ?_)
  · exact wp_retn k204_9 rfl (by unfold muE muA; simp_all)
  · refine wp_aload_n k204_4 rfl rfl ?_
    refine wp_iload_n k204_5 rfl rfl ?_
    refine wp_cvn (st2 := []) k204_6 (e_wrong hM) (by decide) rfl rfl rfl rfl (by decide) hM.o (by decide) ?_
    exact wp_retn k204_9 rfl (by unfold muE muA; simp_all)
end M4
