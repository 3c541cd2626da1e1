section N_r
/-! ===== the class, exactly: the worlds where a law holds ===== -/
theorem wof_0 : Int32.ofNat (mm_ag 32 1461479336924662698594713458128201467374407953066 0) = wof (Int32.ofNat 0) := by decide +kernel
theorem wof_1 : Int32.ofNat (mm_ag 32 1461479336924662698594713458128201467374407953066 1) = wof (Int32.ofNat 1) := by decide +kernel
theorem wof_2 : Int32.ofNat (mm_ag 32 1461479336924662698594713458128201467374407953066 2) = wof (Int32.ofNat 2) := by decide +kernel
theorem wof_3 : Int32.ofNat (mm_ag 32 1461479336924662698594713458128201467374407953066 3) = wof (Int32.ofNat 3) := by decide +kernel
theorem wof_4 : Int32.ofNat (mm_ag 32 1461479336924662698594713458128201467374407953066 4) = wof (Int32.ofNat 4) := by decide +kernel
theorem s_atH {S : ww_S} {h : mm_H} {n : Nat} (hn : n < 5) : EV S 1 156 [.ref 1, .int (Int32.ofNat n)] h (.inl (some (.int (wof (Int32.ofNat n))))) h := by
  refine ev_qe P156 rfl ?_
  obtain rfl | rfl | rfl | rfl | rfl : n = 0 ∨ n = 1 ∨ n = 2 ∨ n = 3 ∨ n = 4 := by omega
  · refine wp_iload_n k156_0 rfl rfl ?_
    refine wp_if_lt_F k156_1 (by decide) ?_
    refine wp_iload_n k156_4 rfl rfl ?_
    refine wp_aload_n k156_5 rfl rfl ?_
    refine wp_alenx k156_6 rfl rfl rfl rfl ?_
    refine wp_if_icmp_ge_F k156_7 (by decide) ?_
    refine wp_aload_n k156_10 rfl rfl ?_
    refine wp_iload_n k156_11 rfl rfl ?_
    refine wp_ialoadx k156_12 rfl rfl (by decide) 0 (by decide) ?_
    refine wp_goto k156_13 ?_
    exact wp_reti k156_17 rfl wof_0 rfl
  · refine wp_iload_n k156_0 rfl rfl ?_
    refine wp_if_lt_F k156_1 (by decide) ?_
    refine wp_iload_n k156_4 rfl rfl ?_
    refine wp_aload_n k156_5 rfl rfl ?_
    refine wp_alenx k156_6 rfl rfl rfl rfl ?_
    refine wp_if_icmp_ge_F k156_7 (by decide) ?_
    refine wp_aload_n k156_10 rfl rfl ?_
    refine wp_iload_n k156_11 rfl rfl ?_
    refine wp_ialoadx k156_12 rfl rfl (by decide) 1 (by decide) ?_
    refine wp_goto k156_13 ?_
    exact wp_reti k156_17 rfl wof_1 rfl
  · refine wp_iload_n k156_0 rfl rfl ?_
    refine wp_if_lt_F k156_1 (by decide) ?_
    refine wp_iload_n k156_4 rfl rfl ?_
    refine wp_aload_n k156_5 rfl rfl ?_
    refine wp_alenx k156_6 rfl rfl rfl rfl ?_
    refine wp_if_icmp_ge_F k156_7 (by decide) ?_
    refine wp_aload_n k156_10 rfl rfl ?_
    refine wp_iload_n k156_11 rfl rfl ?_
    refine wp_ialoadx k156_12 rfl rfl (by decide) 2 (by decide) ?_
    refine wp_goto k156_13 ?_
    exact wp_reti k156_17 rfl wof_2 rfl
  · refine wp_iload_n k156_0 rfl rfl ?_
    refine wp_if_lt_F k156_1 (by decide) ?_
    refine wp_iload_n k156_4 rfl rfl ?_
    refine wp_aload_n k156_5 rfl rfl ?_
    refine wp_alenx k156_6 rfl rfl rfl rfl ?_
    refine wp_if_icmp_ge_F k156_7 (by decide) ?_
    refine wp_aload_n k156_10 rfl rfl ?_
    refine wp_iload_n k156_11 rfl rfl ?_
    refine wp_ialoadx k156_12 rfl rfl (by decide) 3 (by decide) ?_
    refine wp_goto k156_13 ?_
    exact wp_reti k156_17 rfl wof_3 rfl
  · refine wp_iload_n k156_0 rfl rfl ?_
    refine wp_if_lt_F k156_1 (by decide) ?_
    refine wp_iload_n k156_4 rfl rfl ?_
    refine wp_aload_n k156_5 rfl rfl ?_
    refine wp_alenx k156_6 rfl rfl rfl rfl ?_
    refine wp_if_icmp_ge_F k156_7 (by decide) ?_
    refine wp_aload_n k156_10 rfl rfl ?_
    refine wp_iload_n k156_11 rfl rfl ?_
    refine wp_ialoadx k156_12 rfl rfl (by decide) 4 (by decide) ?_
    refine wp_goto k156_13 ?_
    exact wp_reti k156_17 rfl wof_4 rfl
theorem s_not {S : ww_S} {sh : List mm_C} {V : hV} {k : Nat} {n x left : Int32} (hk : kKnow sh k) (hl : V.1 k 1 = left) : EV S 1 37 [.ref k, .int 1, .int n, .int x] (hH sh V) (.inl (some (.int (left &&& (x ^^^ -1))))) (hH sh V) := by
  refine ev_qe P37 rfl ?_
  refine wp_iload_n k37_0 rfl rfl ?_
  refine wp_tswN (i := 0) k37_1 (by decide) rfl (by decide) ?_
  refine wp_aload_n k37_32 rfl rfl ?_
  refine wp_getI k37_33 hk.1.h hk.1.o rfl _ hl ?_
  refine wp_iload_n k37_36 rfl rfl ?_
  refine wp_iconst (-1) k37_37 (by decide) ?_
  refine wp_ixor k37_38 ?_
  refine wp_iand k37_39 ?_
  exact wp_reti k37_40 rfl rfl rfl
/-- one node more: the sets of worlds that stand for what was read -/
def tvS (left : Int32) (x : Int32 × Int32) (st : List Int32) : Option (List Int32) :=
  if x.1 = 0 then (if st.length < 60 ∧ mm_un x.2 < 5 then some ((left &&& wof x.2) :: st) else none)
  else if x.1 = 6 ∨ x.1 = 7 then (match st with
    | b :: a :: r => some ((if x.1 = 6 then a &&& b else a ||| b) :: r)
    | _ => none)
  else if x.1 = 1 then (match st with
    | a :: r => some ((left &&& (a ^^^ -1)) :: r)
    | _ => none)
  else none
def tvF (left : Int32) : hW → List Int32 → Option (List Int32)
  | [], st => some st
  | x :: fo, st => match tvS left x st with
    | some s2 => tvF left fo s2
    | none => none
def VSt (g : Nat → Int32) : List Int32 → Prop
  | [] => True
  | x :: r => g r.length = x ∧ VSt g r
theorem vst_up {V : hV} {a : Nat} {x : Int32} : ∀ (r : List Int32) {n : Nat}, r.length ≤ n → VSt (V.1 a) r → VSt ((up V a n x).1 a) r
  | [], n, _, _ => trivial
  | y :: r, n, h, h2 => ⟨(up_ne _ _ (Or.inr (by rw [List.length_cons] at h; omega))).trans h2.1, vst_up r (by rw [List.length_cons] at h; omega) h2.2⟩
theorem i_of_un (x : Int32) (h : mm_un x < 5) : ∃ n : Nat, n < 5 ∧ x = Int32.ofNat n := ⟨mm_un x, h, (wx_un x).symm⟩
theorem s_truthIn {S : ww_S} {sh : List mm_C} {V : hV} {a k : Nat} {fo : hW} {left v : Int32} (h : FOS sh V a fo) (hl : fo.length ≤ 60) (hk : kKnow sh k) (hka : k ≠ a + 3) (hle : V.1 k 1 = left) (hv : tvF left fo [] = some [v]) : ∃ W, EV S 3 11 [.ref a, .ref k] (hH sh V) (.inl (some (.int v))) (hH sh W) ∧ ∀ b, b ≠ a + 3 → W.1 b = V.1 b := by
  obtain ⟨hF, ha, hn, hx⟩ := h
  have AT : ∀ (W : hV) (q n : Nat), kR sh q 60 → n < 60 → EV S 1 156 [.ref q, .int (Int32.ofNat n)] (hH sh W) (.inl (some (.int (W.1 q n)))) (hH sh W) := by
    intro W q n hq h6
    have E := s_at (S := S) (V := W) hq (by decide) (i := Int32.ofNat n)
    rw [at_in h6 (by decide)] at E
    exact E
  have PU : ∀ (W : hV) (n : Nat) (y : Int32), n < 60 → EV S 1 157 [.ref (a + 3), .int (Int32.ofNat n), .int y] (hH sh W) (.inl none) (hH sh (up W (a + 3) n y)) := by
    intro W n y h6
    have E := s_put (S := S) (V := W) hF.2.2.2.r (by decide) (i := Int32.ofNat n) (x := y)
    rw [putV_up h6 (by decide)] at E
    exact E
  have FR1 : ∀ (U : hV) (n : Nat) (y : Int32), (∀ b, b ≠ a + 3 → U.1 b = V.1 b) → ∀ b, b ≠ a + 3 → (up U (a + 3) n y).1 b = V.1 b := fun U n y g b hb => (funext fun j => up_ne _ _ (Or.inl hb)).trans (g b hb)
  have key : ∀ (rest : hW) (i : Nat) (st : List Int32) (tp : Int32) (y4 y5 y6 : Option Value) (U : hV), i + rest.length = fo.length → (∀ j x, rest[j]? = some x → fo[i + j]? = some x) → tvF left rest st = some [v] → st.length ≤ 60 → tp = Int32.ofNat st.length - 1 → VSt (U.1 (a + 3)) st → (∀ b, b ≠ a + 3 → U.1 b = V.1 b) → WP S 2 mm_m11 4 [some (.ref a), some (.ref k), some (.int tp), some (.int (Int32.ofNat i)), y4, y5, y6] [] (hH sh U) (fun u g => ∃ W : hV, u = .inl (some (.int v)) ∧ g = hH sh W ∧ ∀ b, b ≠ a + 3 → W.1 b = V.1 b) := by
    intro rest
    induction rest with
    | nil =>
      intro i st tp y4 y5 y6 U hi hr ht h60 htp hVv hU
      obtain rfl : st = [v] := Option.some.inj ht
      have hi : i = fo.length := hi
      refine wp_iload_n k11_4 rfl rfl ?_
      refine wp_aload_n k11_5 rfl rfl ?_
      refine wp_getI k11_6 hF.1.h hF.1.o rfl _ ((congrFun (hU a (by omega)) 3).trans hn) ?_
      refine wp_if_icmp_ge_T k11_9 (i_nlt (k := i) (n := fo.length) (by omega) (by omega)) ?_
      refine wp_aload_n k11_160 rfl rfl ?_
      refine wq_getR k11_161 hF.1 rfl ?_
      refine wp_iconst 0 k11_164 (by decide) ?_
      have E := AT U (a + 3) 0 hF.2.2.2.r (by decide)
      rw [show U.1 (a + 3) 0 = v from hVv.1] at E
      refine wp_cs (st2 := []) k11_165 E (by decide) rfl rfl rfl (by decide) ?_
      exact wp_retI k11_168 rfl ⟨U, rfl, rfl, hU⟩
    | cons x rest ih =>
      intro i st tp y4 y5 y6 U hi hr ht h60 htp hVv hU
      rw [List.length_cons] at hi
      have hx0 : fo[i]? = some x := hr 0 x rfl
      obtain ⟨v1, v2⟩ := hx i x hx0
      have E1 := AT U (a + 1) i hF.2.1.r (by omega)
      rw [congrFun (hU (a + 1) (by omega)) i, v1] at E1
      have E2 := AT U (a + 2) i hF.2.2.1.r (by omega)
      rw [congrFun (hU (a + 2) (by omega)) i, v2] at E2
      have hr2 : ∀ j y, rest[j]? = some y → fo[i + 1 + j]? = some y := fun j y hy => by
        rw [show i + 1 + j = i + (j + 1) by omega]
        exact hr (j + 1) y hy
      unfold tvF at ht
      refine wp_iload_n k11_4 rfl rfl ?_
      refine wp_aload_n k11_5 rfl rfl ?_
      refine wp_getI k11_6 hF.1.h hF.1.o rfl _ ((congrFun (hU a (by omega)) 3).trans hn) ?_
      refine wp_if_icmp_ge_F k11_9 (i_lt (k := i) (n := fo.length) (by omega) (by omega)) ?_
      refine wp_aload_n k11_12 rfl rfl ?_
      refine wq_getR k11_13 hF.1 rfl ?_
      refine wp_iload_n k11_16 rfl rfl ?_
      refine wp_cs (st2 := []) k11_17 E1 (by decide) rfl rfl rfl (by decide) ?_
      refine wp_istore (L1 := [_, _, _, _, _, _, _]) k11_20 rfl rfl ?_
      refine wp_iload k11_22 rfl rfl ?_
      have nxt : ∀ (tp2 : Int32) (st2 : List Int32) (z5 z6 : Option Value) (U2 : hV), tvS left x st = some st2 → st2.length ≤ 60 → tp2 = Int32.ofNat st2.length - 1 → VSt (U2.1 (a + 3)) st2 → (∀ b, b ≠ a + 3 → U2.1 b = V.1 b) → WP S 2 mm_m11 154 [some (.ref a), some (.ref k), some (.int tp2), some (.int (Int32.ofNat i)), some (.int x.1), z5, z6] [] (hH sh U2) (fun u g => ∃ W : hV, u = .inl (some (.int v)) ∧ g = hH sh W ∧ ∀ b, b ≠ a + 3 → W.1 b = V.1 b) := by
        intro tp2 st2 z5 z6 U2 hs h62 htp2 hV2 hU2
        rw [hs] at ht
        refine wp_iinc 1 (L1 := [_, _, _, _, _, _, _]) k11_154 rfl (by decide) rfl ?_
        refine wp_goto k11_157 ?_
        rw [i_succ]
        exact ih (i + 1) st2 tp2 _ _ _ U2 (by omega) hr2 ht h62 htp2 hV2 hU2
      by_cases c0 : x.1 = 0
      · refine wp_if_ne_F k11_24 c0 ?_
        have hs : tvS left x st = if st.length < 60 ∧ mm_un x.2 < 5 then some ((left &&& wof x.2) :: st) else none := if_pos c0
        by_cases c1 : st.length < 60 ∧ mm_un x.2 < 5
        · rw [if_pos c1] at hs
          obtain ⟨n, n5, hn2⟩ := i_of_un x.2 c1.2
          have E3 := s_atH (S := S) (h := hH sh U) n5
          rw [hn2] at E2
          refine wp_iinc 1 (L1 := [_, _, _, _, _, _, _]) k11_27 rfl (by decide) rfl ?_
          refine wp_aload_n k11_30 rfl rfl ?_
          refine wq_getR k11_31 hF.1 rfl ?_
          refine wp_iload_n k11_34 rfl rfl ?_
          refine wp_aload_n k11_35 rfl rfl ?_
          refine wp_getI k11_36 hk.1.h hk.1.o rfl _ ((congrFun (hU k hka) 1).trans hle) ?_
          refine wp_getstatic k11_39 rfl ?_
          refine wp_aload_n k11_42 rfl rfl ?_
          refine wq_getR k11_43 hF.1 rfl ?_
          refine wp_iload_n k11_46 rfl rfl ?_
          refine wp_cs (st2 := [_, _, _, _]) k11_47 E2 (by decide) rfl rfl rfl (by decide) ?_
          refine wp_cs (st2 := [_, _, _]) k11_50 E3 (by decide) rfl rfl rfl (by decide) ?_
          refine wp_iand k11_53 ?_
          have et : tp + 1 = Int32.ofNat st.length := by rw [htp]; exact Int32.sub_add_cancel _ _
          rw [et]
          refine wp_csn (st2 := []) k11_54 (PU U st.length _ c1.1) (by decide) rfl rfl rfl (by decide) ?_
          refine wp_goto k11_57 ?_
          rw [hn2] at hs
          exact nxt _ _ _ _ _ hs (by rw [List.length_cons]; omega) (by rw [List.length_cons, i_pred (by omega)]; rfl) ⟨up_eq _ _ _ _, vst_up st (Nat.le_refl _) hVv⟩ (FR1 U _ _ hU)
        · rw [if_neg c1] at hs
          rw [hs] at ht
          cases ht
      · refine wp_if_ne_T k11_24 c0 ?_
        refine wp_iload k11_60 rfl rfl ?_
        refine wp_cs (st2 := []) k11_62 s_isJoin (by decide) rfl rfl rfl (by decide) ?_
        by_cases c6 : x.1 = 6 ∨ x.1 = 7
        · rw [decide_eq_true c6]
          refine wp_if_eq_F k11_65 (by decide) ?_
          cases st with
          | nil =>
            rw [show tvS left x [] = none from (if_neg c0).trans (if_pos c6)] at ht
            cases ht
          | cons b st =>
            cases st with
            | nil =>
              rw [show tvS left x [b] = none from (if_neg c0).trans (if_pos c6)] at ht
              cases ht
            | cons a2 r =>
              have hs : tvS left x (b :: a2 :: r) = some ((if x.1 = 6 then a2 &&& b else a2 ||| b) :: r) := (if_neg c0).trans (if_pos c6)
              obtain ⟨vb, va, vr⟩ := hVv
              rw [List.length_cons, List.length_cons] at h60
              have et : tp + -1 = Int32.ofNat r.length := by
                rw [htp, List.length_cons, List.length_cons, i_pred (by omega), ← Int32.sub_eq_add_neg, i_pred (by omega)]
                rfl
              have EA := AT U (a + 3) r.length hF.2.2.2.r (by omega)
              rw [va] at EA
              have EB := AT U (a + 3) (r.length + 1) hF.2.2.2.r (by omega)
              rw [show U.1 (a + 3) (r.length + 1) = b from vb] at EB
              refine wp_iinc (-1) (L1 := [_, _, _, _, _, _, _]) k11_68 rfl (by decide) rfl ?_
              rw [et]
              refine wp_aload_n k11_71 rfl rfl ?_
              refine wq_getR k11_72 hF.1 rfl ?_
              refine wp_iload_n k11_75 rfl rfl ?_
              refine wp_cs (st2 := []) k11_76 EA (by decide) rfl rfl rfl (by decide) ?_
              refine wp_istore (L1 := [_, _, _, _, _, _, _]) k11_79 rfl rfl ?_
              refine wp_aload_n k11_81 rfl rfl ?_
              refine wq_getR k11_82 hF.1 rfl ?_
              refine wp_iload_n k11_85 rfl rfl ?_
              refine wp_iconst 1 k11_86 (by decide) ?_
              refine wp_iadd k11_87 ?_
              refine wp_cast (i_succ r.length) ?_
              refine wp_cs (st2 := []) k11_88 EB (by decide) rfl rfl rfl (by decide) ?_
              refine wp_istore (L1 := [_, _, _, _, _, _, _]) k11_91 rfl rfl ?_
              refine wp_aload_n k11_93 rfl rfl ?_
              refine wq_getR k11_94 hF.1 rfl ?_
              refine wp_iload_n k11_97 rfl rfl ?_
              refine wp_iload k11_98 rfl rfl ?_
              refine wp_bipush 6 k11_100 (by decide) ?_
              by_cases c7 : x.1 = 6
              · rw [if_pos c7] at hs
                refine wp_if_icmp_ne_F k11_102 c7 ?_
                refine wp_iload k11_105 rfl rfl ?_
                refine wp_iload k11_107 rfl rfl ?_
                refine wp_iand k11_109 ?_
                refine wp_goto k11_110 ?_
                refine wp_csn (st2 := []) k11_118 (PU U r.length _ (by omega)) (by decide) rfl rfl rfl (by decide) ?_
                refine wp_goto k11_121 ?_
                exact nxt _ _ _ _ _ hs (by rw [List.length_cons]; omega) (by rw [List.length_cons, i_pred (by omega)]; rfl) ⟨up_eq _ _ _ _, vst_up r (Nat.le_refl _) vr⟩ (FR1 U _ _ hU)
              · rw [if_neg c7] at hs
                refine wp_if_icmp_ne_T k11_102 c7 ?_
                refine wp_iload k11_113 rfl rfl ?_
                refine wp_iload k11_115 rfl rfl ?_
                refine wp_ior k11_117 ?_
                refine wp_csn (st2 := []) k11_118 (PU U r.length _ (by omega)) (by decide) rfl rfl rfl (by decide) ?_
                refine wp_goto k11_121 ?_
                exact nxt _ _ _ _ _ hs (by rw [List.length_cons]; omega) (by rw [List.length_cons, i_pred (by omega)]; rfl) ⟨up_eq _ _ _ _, vst_up r (Nat.le_refl _) vr⟩ (FR1 U _ _ hU)
        · rw [decide_eq_false c6]
          refine wp_if_eq_T k11_65 rfl ?_
          by_cases c1 : x.1 = 1
          · cases st with
            | nil =>
              rw [show tvS left x [] = none from (if_neg c0).trans ((if_neg c6).trans (if_pos c1))] at ht
              cases ht
            | cons a2 r =>
              have hs : tvS left x (a2 :: r) = some ((left &&& (a2 ^^^ -1)) :: r) := (if_neg c0).trans ((if_neg c6).trans (if_pos c1))
              obtain ⟨va, vr⟩ := hVv
              rw [List.length_cons] at h60
              have et : tp = Int32.ofNat r.length := by
                rw [htp, List.length_cons, i_pred (by omega)]
                rfl
              have EA := AT U (a + 3) r.length hF.2.2.2.r (by omega)
              rw [va] at EA
              rw [et]
              refine wp_aload_n k11_124 rfl rfl ?_
              refine wq_getR k11_125 hF.1 rfl ?_
              refine wp_iload_n k11_128 rfl rfl ?_
              refine wp_aload_n k11_129 rfl rfl ?_
              refine wp_iload k11_130 rfl rfl ?_
              refine wp_aload_n k11_132 rfl rfl ?_
              refine wq_getR k11_133 hF.1 rfl ?_
              refine wp_iload_n k11_136 rfl rfl ?_
              refine wp_cs (st2 := [_, _, _, _]) k11_137 E2 (by decide) rfl rfl rfl (by decide) ?_
              refine wp_aload_n k11_140 rfl rfl ?_
              refine wq_getR k11_141 hF.1 rfl ?_
              refine wp_iload_n k11_144 rfl rfl ?_
              refine wp_cs (st2 := [_, _, _, _, _]) k11_145 EA (by decide) rfl rfl rfl (by decide) ?_
              have EN : EV S 1 37 [.ref k, .int x.1, .int x.2, .int a2] (hH sh U) (.inl (some (.int (left &&& (a2 ^^^ -1))))) (hH sh U) := by
                rw [c1]
                exact s_not hk ((congrFun (hU k hka) 1).trans hle)
              refine wp_cv (st2 := [_, _]) k11_148 EN (by decide) rfl rfl rfl rfl hk.1.h hk.1.o (by decide) ?_
              refine wp_csn (st2 := []) k11_151 (PU U r.length _ (by omega)) (by decide) rfl rfl rfl (by decide) ?_
              exact nxt _ _ _ _ _ hs (by rw [List.length_cons]; omega) (by rw [List.length_cons, i_pred (by omega)]; rfl) ⟨up_eq _ _ _ _, vst_up r (Nat.le_refl _) vr⟩ (FR1 U _ _ hU)
          · rw [show tvS left x st = none from (if_neg c0).trans ((if_neg c6).trans (if_neg c1))] at ht
            cases ht
  have HQ : EVQ S 3 11 [.ref a, .ref k] (hH sh V) (fun u g => ∃ W : hV, u = .inl (some (.int v)) ∧ g = hH sh W ∧ ∀ b, b ≠ a + 3 → W.1 b = V.1 b) := by
    refine ev_of P11 rfl ?_
    refine wp_iconst (-1) k11_0 (by decide) ?_
    refine wp_istore_n (L1 := [_, _, _, _, _, _, _]) k11_1 rfl rfl ?_
    refine wp_iconst 0 k11_2 (by decide) ?_
    refine wp_istore_n (L1 := [_, _, _, _, _, _, _]) k11_3 rfl rfl ?_
    exact key fo 0 [] _ _ _ _ V (Nat.zero_add _) (fun j x hj => by rw [Nat.zero_add]; exact hj) hv (Nat.zero_le _) (by decide) trivial (fun _ _ => rfl)
  obtain ⟨u, g, E, W, rfl, rfl, hW⟩ := HQ
  exact ⟨W, E, hW⟩
end N_r
