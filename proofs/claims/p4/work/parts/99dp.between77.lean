section M77
/-! ===== more fuel, more depth: the same runs ===== -/
theorem exe_up {X : mm_X} {P : Nat → Option mm_M} {c1 c2 : Nat → List Value → mm_H → Option (mm_V × mm_H)} (hc : ∀ j as h r, c1 j as h = some r → c2 j as h = some r) {M : mm_M} : ∀ n pc L st h r, mm_exe X P c1 M n pc L st h = some r → ∀ n', n ≤ n' → mm_exe X P c2 M n' pc L st h = some r := by
  intro n
  induction n with
  | zero => intro pc L st h r he; cases he
  | succ n ih =>
    intro pc L st h r he n' hn
    obtain ⟨n', rfl⟩ := Nat.exists_eq_add_of_le' (Nat.le_trans (Nat.le_add_left 1 n) hn)
    have hn := Nat.le_of_succ_le_succ hn
    simp only [mm_exe] at he ⊢
    split at he
    · cases he
    · rename_i mi hmi
      try rw [hmi]
      try dsimp only
      split at he
      · cases he
      · rename_i e
        try rw [e]
        exact ih _ _ _ _ _ he _ hn
      · rename_i e
        try rw [e]
        try dsimp only
        split at he
        · rename_i e0
          try rw [e0]
          try dsimp only
          split at he
          · rename_i e1
            try rw [e1]
            exact ih _ _ _ _ _ he _ hn
          · cases he
        · cases he
      · rename_i e
        try rw [e]
        exact ih _ _ _ _ _ he _ hn
      · rename_i e
        try rw [e]
        try dsimp only
        split at he
        · cases he
        · rename_i e1
          rw [hc _ _ _ _ e1]
          exact ih _ _ _ _ _ he _ hn
        · rename_i e1
          rw [hc _ _ _ _ e1]
          exact ih _ _ _ _ _ he _ hn
        · rename_i e1
          rw [hc _ _ _ _ e1]
          exact he
      · rename_i e
        try rw [e]
        exact he
      · rename_i e
        try rw [e]
        exact he
theorem run_up {X : mm_X} {P : Nat → Option mm_M} {F G : Nat} (hF : F ≤ G) : ∀ d d', d ≤ d' → ∀ j as h r, mm_run X P F d j as h = some r → mm_run X P G d' j as h = some r := by
  intro d
  induction d with
  | zero => intro d' _ j as h r he; cases he
  | succ d ih =>
    intro d' hd j as h r he
    obtain ⟨d', rfl⟩ := Nat.exists_eq_add_of_le' (Nat.le_trans (Nat.le_add_left 1 d) hd)
    simp only [mm_run] at he ⊢
    split at he
    · cases he
    · rename_i M hM
      try rw [hM]
      try dsimp only
      split at he
      · cases he
      · rename_i hb
        try rw [hb]
        try dsimp only
        cases hx : mm_exe X P (mm_run X P F d) M F 0 (mm_entry M.2.1 as) [] h with
        | none =>
          rw [hx] at he
          cases he
        | some q =>
          rw [hx] at he
          rw [exe_up (ih d' (Nat.le_of_succ_le_succ hd)) _ _ _ _ _ _ hx G hF]
          exact he
section WL
variable {S : ww_S} {D : Nat} {M : mm_M} {pc p9 nx : Nat} {L : mm_L} {st : List Value} {h : mm_H} {Q : mm_V → mm_H → Prop} {ax : List Nat} {sh : List mm_C} {V : hV}
theorem wp_f2d (hk : mm_lk M.1 pc = some (p9, .f2d, nx, ax)) {x : UInt32} (e : FOD x) (w : WP S D M nx L (.double (Jvm.FP.f2d x) :: st) h Q) : WP S D M pc L (.float x :: st) h Q := wp_go hk (by simp only [mm_stp]; rw [if_pos (show Jvm.FP.f2d x &&& 0x7fffffffffffffff ≤ 0x7ff0000000000000 from e)]; rfl) w
def upL (V : hV) (a N : Nat) : hV := (V.1, fun b => if b = a then N else V.2 b)
theorem wp_lastore {a n z : Nat} {i : Int32} {x : Int64} (hk : mm_lk M.1 pc = some (p9, .lastore, nx, ax)) (h64 : 64 ≤ a) (hs : sh[a - 64]? = some (.inl (1, n, z))) (hi : mm_in i n = true) (w : WP S D M nx L st (hH sh (upL V a (mm_as 64 (V.2 a) (mm_un i) x.toUInt64.toNat))) Q) : WP S D M pc L (.long x :: .int i :: .ref a :: st) (hH sh V) Q := by
  obtain ⟨N, hN⟩ : ∃ N, mm_as 64 (V.2 a) (mm_un i) x.toUInt64.toNat = N := ⟨_, rfl⟩
  rw [hN] at w
  have e : (hH sh V).set (a - 64) (.inl (1, n, N)) = hH sh (upL V a N) := by
    have h := hp_set V (upL V a N) sh 64 (a - 64) (.inl (1, n, z)) fun b _ _ hb => ⟨rfl, by unfold upL; dsimp only; rw [if_neg (by omega)]⟩
    rw [show 64 + (a - 64) = a by omega, hl_set _ _ _ hs] at h
    have h2 : hc ((upL V a N).1 a) ((upL V a N).2 a) (.inl (1, n, z)) = .inl (1, n, N) := by
      show Sum.inl (1, n, if a = a then N else V.2 a) = _
      rw [if_pos rfl]
    rw [h2] at h
    exact h
  refine wp_wr (c := .inl (1, n, N)) (k := a - 64) hk ?_ (c0 := hc (V.1 a) (V.2 a) (.inl (1, n, z))) ?_ rfl (by rw [e]; exact w)
  · simp only [mm_stp]
    rw [show mm_prim (mm_rd (ww_X S).1 (hH sh V) a) 1 = some (n, V.2 a) from by
      rw [show mm_rd (ww_X S).1 (hH sh V) a = _ from wx_own h64 hs]
      rfl]
    dsimp only
    rw [hi]
    dsimp only
    rw [mm_fN_eq, hN]
    unfold mm_wr
    rw [Nat.ble_eq_true_of_le h64]
  · rw [hp_get, hs, show 64 + (a - 64) = a by omega]
    rfl
theorem wp_laload {a n z : Nat} {i : Int32} {x : Int64} (hk : mm_lk M.1 pc = some (p9, .laload, nx, ax)) (h64 : 64 ≤ a) (hs : sh[a - 64]? = some (.inl (1, n, z))) (hi : mm_in i n = true) (hx : Int64.ofNat (mm_ag 64 (V.2 a) (mm_un i)) = x) (w : WP S D M nx L (.long x :: st) (hH sh V) Q) : WP S D M pc L (.int i :: .ref a :: st) (hH sh V) Q := by
  subst hx
  refine wp_go hk ?_ w
  simp only [mm_stp]
  rw [show mm_prim (mm_rd (ww_X S).1 (hH sh V) a) 1 = some (n, V.2 a) from by
    rw [show mm_rd (ww_X S).1 (hH sh V) a = _ from wx_own h64 hs]
    rfl]
  dsimp only
  rw [hi, Nat.ble_eq_true_of_le h64]
  simp only [Bool.and_self]
  rw [mm_fL_eq]
  rfl
theorem la_of (N : Nat) (x : Int64) : Int64.ofNat (mm_ag 64 (mm_as 64 N 0 x.toUInt64.toNat) 0) = x := by
  rw [mm_ag_as 64 _ _ _ _ (by decide), if_pos rfl, Nat.mod_eq_of_lt (show x.toUInt64.toNat < 2 ^ 64 from x.toUInt64.toNat_lt)]
  have h := mm_fL_eq x id
  unfold mm_fL at h
  rw [mm_fN_eq] at h
  exact h
theorem wp_iaload0 {i x : Int32} (hk : mm_lk M.1 pc = some (p9, .iaload, nx, ax)) (hi : mm_in i S.1 = true) (hx : S.2 (mm_un i) = some x) (w : WP S D M nx L (.int x :: st) h Q) : WP S D M pc L (.int i :: .ref 0 :: st) h Q := by
  refine wp_go hk ?_ w
  simp only [mm_stp]
  rw [show mm_in i (ww_X S).2.1.1 = true from hi]
  dsimp only
  rw [show (ww_X S).2.1.2 (mm_un i) = some x from hx]
  rfl
theorem wp_alen0 (hk : mm_lk M.1 pc = some (p9, .arraylength, nx, ax)) (w : WP S D M nx L (.int (Int32.ofNat S.1) :: st) h Q) : WP S D M pc L (.ref 0 :: st) h Q := by
  refine wp_go hk ?_ w
  simp only [mm_stp]
  rfl
/-- the k-th int behind the place j of the script -/
theorem wp_arg {q0 q1 q2 q3 q4 n0 n1 n2 n3 j k : Nat} {a0 a1 a2 a3 : List Nat} {kz : Int} {x : Int32} (h0 : mm_lk M.1 pc = some (q0, .aload_n 0, n0, a0)) (h1 : mm_lk M.1 n0 = some (q1, .iload 4, n1, a1)) (h2 : mm_lk M.1 n1 = some (q2, .iconst kz, n2, a2)) (h3 : mm_lk M.1 n2 = some (q3, .iadd, n3, a3)) (h4 : mm_lk M.1 n3 = some (q4, .iaload, nx, ax)) (hL0 : mm_get L 0 = some (.ref 0)) (hL4 : mm_get L 4 = some (.int (Int32.ofNat j))) (hz : Int32.ofInt kz = Int32.ofNat k) (hj : j + k < S.1) (hS : S.1 ≤ 3072) (hx : S.2 (j + k) = some x) (w : WP S D M nx L (.int x :: st) h Q) : WP S D M pc L st h Q := by
  refine wp_aload_n h0 hL0 rfl ?_
  refine wp_iload h1 hL4 rfl ?_
  refine wp_iconst _ h2 hz ?_
  refine wp_iadd h3 ?_
  refine wp_cast (i_add j k) ?_
  have e : mm_un (Int32.ofNat (j + k)) = j + k := i_un (by omega)
  refine wp_iaload0 h4 ?_ (by rw [e]; exact hx) w
  unfold mm_in
  rw [e, Nat.ble_eq_true_of_le (show j + k + 1 ≤ S.1 by omega), Nat.ble_eq_true_of_le (show S.1 ≤ 2147483647 by omega)]
  rfl
/-- a call that may throw, in a method that catches -/
theorem wcxP {u kd j n a D' ci c2 t k r : Nat} {fs : List Value} {rr : List Nat} {as st2 : List Value} {LL : Int32} (hk : mm_lk M.1 pc = some (p9, .invokevirtual u, nx, kd :: j :: n :: c2 :: rr)) (c : EVQ S D' j as (hH sh V) (xP r LL sh V ci)) (hkd : kd = 0 ∨ kd = 5 ∨ kd = 3) (hb : (Nat.ble n st.length && mm_rst st n) = true) (ha : (st.take n).reverse = as) (hr : st.drop n = st2) (hv : st[n - 1]? = some (.ref a)) (h64 : 64 ≤ a) (hs : sh[a - 64]? = some (.inr (.inr (c2, fs)))) (hD : D' ≤ D) (hh : mm_hd M.2.2.2 pc ci = some (some (t, k))) (ht : M.2.2.1 = 1) (w : ∀ (x : Int32) (s : List mm_C) (W : hV), FX r LL sh V s W → WP S D M nx L (.int x :: st2) (hH s W) Q) (q : ∀ (s : List mm_C) (W : hV), FX r LL sh V s W → Q (.inl (some (.int 1))) (hH s W ++ [.inr (.inr (ci, []))])) : WP S D M pc L st (hH sh V) Q := by
  obtain ⟨v, g, e, s, W, f, h⟩ := c
  rcases h with ⟨x, rfl, rfl⟩ | ⟨rfl, rfl⟩
  · exact wp_cv hk e hkd hb ha hr hv h64 hs hD (w x s W f)
  · exact wp_callc hk (wx_callV hkd hb hv h64 hs ha hr) e hD hh ht (q s W f)
end WL
/-! ===== what holds between two calls of the law ===== -/
/-- the cells of both inputs -/
abbrev hB : Type := (Nat → Int32) × (Nat → Int32)
def LT (r : Nat) (sh : List mm_C) (V : hV) (lc lr : Int32) (B : hB) : Prop := WI sh ∧ CN sh V ∧ SBok sh V ∧ MS sh ∧ RI V ∧ V.1 65 4 = lc ∧ V.1 312 10 = lr ∧ 260 ≤ sh.length ∧ sh[323 - 64]? = some (.inl (1, 1, 0)) ∧ sh.length ≤ 244 + capS sh + r ∧ shS sh ≤ 25794 + 2 * capS sh + 6 * r ∧ V.1 66 = B.1 ∧ V.1 319 = B.2
theorem RI.cg {V W : hV} (e : ∀ b, 312 ≤ b → b ≤ 322 → W.1 b = V.1 b) (h : RI V) : RI W := by
  obtain ⟨l, pm, ol, b, h1, h2, h3, h4, h5, h6, h7, h8, h9, h10⟩ := h
  have e2 := e 312 (by decide) (by decide)
  refine ⟨l, pm, ol, b, (congrFun e2 10).trans h1, h2, (congrFun e2 5).trans h3, h4, (congrFun e2 26).trans h5, h6, (congrFun e2 7).trans h7, fun z => ?_, ?_, h10.cg (e 317 (by decide) (by decide))⟩
  · rw [e 314 (by decide) (by decide)]
    exact h8 z
  · rw [e 313 (by decide) (by decide)]
    exact h9
theorem LT.fx {r q : Nat} {sh s : List mm_C} {V W : hV} {lc lr L : Int32} {B : hB} (h : LT r sh V lc lr B) (f : FX q L sh V s W) : LT (r + q) s W L lr B := by
  obtain ⟨h1, h2, h3, h4, h5, h6, h7, h8, h9, h10, h11, h12, h13⟩ := h
  obtain ⟨f1, f2, f3, f4, f5, f6, f7, f8⟩ := f
  have g9 := (f2 323 (by decide) (by decide)).1.trans h9
  have g8 := (List.getElem?_eq_some_iff.mp g9).1
  refine ⟨f4 h1, f5 h2, f6 h3, ?_, RI.cg (fun b a1 a2 => (f2 b (Or.inl a1) (by omega)).2.1) h5, f1, (congrFun (f2 312 (by decide) (by decide)).2.1 10).trans h7, by omega, g9, by omega, by omega, (f2 66 (Or.inr rfl) (by decide)).2.1.trans h12, (f2 319 (Or.inl (by decide)) (by decide)).2.1.trans h13⟩
  obtain ⟨m1, m2, m3, m4, m5, m6, m7, m8, m9, m10, m11⟩ := h4
  have e : ∀ b, 312 ≤ b → b ≤ 323 → s[b - 64]? = sh[b - 64]? := fun b a1 a2 => (f2 b (Or.inl a1) a2).1
  exact ⟨(e 312 (by decide) (by decide)).trans m1, (e 313 (by decide) (by decide)).trans m2, (e 314 (by decide) (by decide)).trans m3, (e 315 (by decide) (by decide)).trans m4, (e 316 (by decide) (by decide)).trans m5, (e 317 (by decide) (by decide)).trans m6, (e 318 (by decide) (by decide)).trans m7, (e 319 (by decide) (by decide)).trans m8, (e 320 (by decide) (by decide)).trans m9, (e 321 (by decide) (by decide)).trans m10, (e 322 (by decide) (by decide)).trans m11⟩
theorem capI_of {sh : List mm_C} {V : hV} {q cap c : Nat} (h : SBI sh V q cap c) : capS sh = cap := by
  obtain ⟨h1, h2, h3, h4, h5, h6⟩ := h
  unfold capS
  rw [h4]
  dsimp only
  rw [h5]
theorem LT.thr {r ci : Nat} {sh : List mm_C} {V : hV} {lc lr : Int32} {B : hB} (hci : 15 ≤ ci) (h : LT r sh V lc lr B) : LT (r + 1) (sh ++ [.inr (.inr (ci, []))]) V lc lr B := by
  obtain ⟨hW, h2, hB, h4, h5, h6, h7, h8, h9, h10, h11, h12, h13⟩ := h
  have e := sc_ex sh [(.inr (.inr (ci, [])) : mm_C)]
  have hB2 : ∀ q cap c, SBI sh V q cap c → SBI (sh ++ [.inr (.inr (ci, []))]) V q cap c := fun q cap c ⟨a1, a2, a3, a4, a5, a6, a7, a8, a9, a10⟩ => ⟨a1, a2, a3, ap_old a4, ap_old a5, a6, a7, a8, a9, a10⟩
  have hcap : capS (sh ++ [.inr (.inr (ci, []))]) = capS sh := by
    obtain ⟨q, cap, c, a⟩ := hB
    rw [capI_of a, capI_of (hB2 q cap c a)]
  have hs : shS (sh ++ [.inr (.inr (ci, []))]) = shS sh + 6 := by
    unfold shS
    rw [List.map_append, List.sum_append]
    show _ + ((match Nat.ble 15 ci with
      | true => 6
      | false => 0) + 0) = _
    rw [Nat.ble_eq_true_of_le hci]
  obtain ⟨m1, m2, m3, m4, m5, m6, m7, m8, m9, m10, m11⟩ := h4
  refine ⟨?_, fun q fs h64 hq => ?_, ?_, ⟨ap_old m1, ap_old m2, ap_old m3, ap_old m4, ap_old m5, ap_old m6, ap_old m7, ap_old m8, ap_old m9, ap_old m10, ap_old m11⟩, h5, h6, h7, by rw [List.length_append]; omega, ap_old h9, by rw [List.length_append, List.length_singleton, hcap]; omega, by rw [hs, hcap]; omega, h12, h13⟩
  · refine ⟨hW.1.ex e rfl rfl, hW.2.1.ex e, hW.2.2.1.ex e, hW.2.2.2.1.ex e, e _ _ hW.2.2.2.2.1 rfl, fun b hb => ?_⟩
    obtain ⟨q, hq⟩ := hW.2.2.2.2.2 b hb
    exact ⟨q, ⟨hq.1.1, hq.1.2.1, hq.1.2.2.1, ap_old hq.1.o⟩, hq.2.1.ex e, hq.2.2.1.ex e, hq.2.2.2.1.ex e, hq.2.2.2.2.ex e⟩
  · by_cases hlt : q - 64 < sh.length
    · rw [List.getElem?_append_left hlt] at hq
      exact h2 q fs h64 hq
    · rw [List.getElem?_append_right (by omega)] at hq
      cases hk : q - 64 - sh.length with
      | zero =>
        rw [hk] at hq
        cases hq
        omega
      | succ k =>
        rw [hk] at hq
        cases hq
  · obtain ⟨q, cap, c, a⟩ := hB
    exact ⟨q, cap, c, hB2 q cap c a⟩
theorem thr_hH {sh : List mm_C} {V : hV} {ci : Nat} : hH sh V ++ [.inr (.inr (ci, []))] = hH (sh ++ [.inr (.inr (ci, []))]) V := hp_push V sh (.inr (.inr (ci, [])))
theorem LT.upL {r a N : Nat} {sh : List mm_C} {V : hV} {lc lr : Int32} {B : hB} (h : LT r sh V lc lr B) : LT r sh (upL V a N) lc lr B := h
theorem ms_7 {sh : List mm_C} (h : MS sh) {q : Nat} {fs : List Value} (h1 : 312 ≤ q) (h2 : q ≤ 322) (hq : sh[q - 64]? = some (.inr (.inr (7, fs)))) : False := by
  obtain ⟨m1, m2, m3, m4, m5, m6, m7, m8, m9, m10, m11⟩ := h
  obtain rfl | rfl | rfl | rfl | rfl | rfl | rfl | rfl | rfl | rfl | rfl : q = 312 ∨ q = 313 ∨ q = 314 ∨ q = 315 ∨ q = 316 ∨ q = 317 ∨ q = 318 ∨ q = 319 ∨ q = 320 ∨ q = 321 ∨ q = 322 := by omega
  · cases m1.symm.trans hq
  · cases m2.symm.trans hq
  · cases m3.symm.trans hq
  · cases m4.symm.trans hq
  · cases m5.symm.trans hq
  · cases m6.symm.trans hq
  · cases m7.symm.trans hq
  · cases m8.symm.trans hq
  · cases m9.symm.trans hq
  · cases m10.symm.trans hq
  · cases m11.symm.trans hq
theorem LT.refA {r : Nat} {sh : List mm_C} {V W : hV} {lc lr L : Int32} {B : hB} (h : LT r sh V lc lr B) (hR : RI W) (hL : W.1 312 10 = L) (f : ∀ a, a < 312 ∨ 322 < a → W.1 a = V.1 a) : LT r sh W lc L (B.1, W.1 319) := by
  obtain ⟨h1, h2, h3, h4, h5, h6, h7, h8, h9, h10, h11, h12, h13⟩ := h
  refine ⟨h1, fun q fs h64 hq => ?_, ?_, h4, hR, (congrFun (f 65 (by decide)) 4).trans h6, hL, h8, h9, h10, h11, (f 66 (by decide)).trans h12, rfl⟩
  · have hz : q < 312 ∨ 322 < q := by
      by_cases c1 : q < 312
      · exact Or.inl c1
      · by_cases c2 : 322 < q
        · exact Or.inr c2
        · exact (ms_7 h4 (by omega) (by omega) hq).elim
    rw [f q hz]
    exact h2 q fs h64 hq
  · obtain ⟨q, cap, c, a1, a2, a3, a4, a5, a6, a7, a8, a9, a10⟩ := h3
    have e := f 183 (by decide)
    have eq := f q (by omega)
    exact ⟨q, cap, c, a1, a2, a3, a4, a5, by rw [e]; exact a6, by rw [e]; exact a7, a8, a9, by rw [eq]; exact a10⟩
theorem LT.ref {r : Nat} {sh : List mm_C} {V W : hV} {lc lr L : Int32} {B : hB} (h : LT r sh V lc lr B) (hR : RI W) (hL : W.1 312 10 = L) (f : ∀ a, a < 312 ∨ 322 < a → W.1 a = V.1 a) (g : W.1 319 = V.1 319) : LT r sh W lc L B := by
  have h2 := h.refA hR hL f
  rw [g, h.2.2.2.2.2.2.2.2.2.2.2.2] at h2
  exact h2
/-- append of the class: its cells alone -/
theorem LT.ap {r : Nat} {sh : List mm_C} {V W : hV} {lc lr L : Int32} {B : hB} (h : LT r sh V lc lr B) (hL : W.1 65 4 = L) (f : ∀ a, a ≠ 65 → a ≠ 66 → W.1 a = V.1 a) : LT r sh W L lr (W.1 66, B.2) := by
  obtain ⟨h1, h2, h3, h4, h5, h6, h7, h8, h9, h10, h11, h12, h13⟩ := h
  refine ⟨h1, fun q fs h64 hq => ?_, ?_, h4, RI.cg (fun b a1 a2 => f b (by omega) (by omega)) h5, hL, (congrFun (f 312 (by decide) (by decide)) 10).trans h7, h8, h9, h10, h11, rfl, (f 319 (by decide) (by decide)).trans h13⟩
  · have z1 : q ≠ 65 := fun e => by
      subst e
      rw [h1.2.1.2.1.1.o] at hq
      cases hq
    have z2 : q ≠ 66 := fun e => by
      subst e
      rw [h1.2.1.2.1.2.1.o] at hq
      cases hq
    rw [f q z1 z2]
    exact h2 q fs h64 hq
  · obtain ⟨q, cap, c, a1, a2, a3, a4, a5, a6, a7, a8, a9, a10⟩ := h3
    have e := f 183 (by decide) (by decide)
    have eq := f q (by omega) (by omega)
    exact ⟨q, cap, c, a1, a2, a3, a4, a5, by rw [e]; exact a6, by rw [e]; exact a7, a8, a9, by rw [eq]; exact a10⟩
/-- both inputs hold the same bytes -/
def BLf (B : hB) (l : Nat) : Prop := ∀ k, k < l → B.1 k = B.2 k ∧ ∃ b : Nat, b ≤ 255 ∧ B.2 k = Int32.ofNat b
def BL2 (V U : hV) (l : Nat) : Prop := ∀ k, k < l → V.1 66 k = U.1 319 k ∧ ∃ b : Nat, b ≤ 255 ∧ U.1 319 k = Int32.ofNat b
theorem bl_1 {V U : hV} {l : Nat} {y z : Int32} (h : BL2 V U l) (e : y = z) (hb : ∃ b : Nat, b ≤ 255 ∧ z = Int32.ofNat b) : BL2 (ad1 V l y) (rd1 U l z) (l + 1) := by
  intro k hk
  have e1 : (ad1 V l y).1 66 k = (up V 66 l y).1 66 k := up_ne _ _ (Or.inl (by decide))
  have e2 : (rd1 U l z).1 319 k = (up U 319 l z).1 319 k := up_ne _ _ (Or.inl (by decide))
  rw [e1, e2]
  by_cases c : k = l
  · subst c
    rw [up_eq, up_eq]
    exact ⟨e, hb⟩
  · rw [up_ne _ _ (Or.inr c), up_ne _ _ (Or.inr c)]
    exact h k (by omega)
theorem by_sh (a : BitVec 32) : ∀ k : Fin 25, a >>> k.val &&& 255#32 = a.sshiftRight k.val &&& 255#32 := by
  intro k
  refine BitVec.eq_of_getLsbD_eq fun i hi => ?_
  rw [BitVec.getLsbD_and, BitVec.getLsbD_and]
  by_cases c : i < 8
  · rw [BitVec.getLsbD_ushiftRight, BitVec.getLsbD_sshiftRight]
    have h1 : k.val + i < 32 := by omega
    have h2 : ¬ 32 ≤ i := by omega
    simp [h1, hi, h2]
  · have h2 : (255#32).getLsbD i = false := by
      have := fun j : Fin 32 => (show 8 ≤ j.val → (255#32).getLsbD j.val = false from by revert j; decide)
      exact this ⟨i, hi⟩ (show 8 ≤ i by omega)
    rw [h2, Bool.and_false, Bool.and_false]
theorem by_24 (x : Int32) : byK x 24 = byS x 24 := Int32.toBitVec_inj.mp (by_sh x.toBitVec ⟨24, by decide⟩)
theorem by_16 (x : Int32) : byK x (24 + -8) = byS x (24 + -8) := Int32.toBitVec_inj.mp (by_sh x.toBitVec ⟨16, by decide⟩)
theorem by_8 (x : Int32) : byK x (24 + -8 + -8) = byS x (24 + -8 + -8) := Int32.toBitVec_inj.mp (by_sh x.toBitVec ⟨8, by decide⟩)
theorem by_0 (x : Int32) : byK x (24 + -8 + -8 + -8) = byS x (24 + -8 + -8 + -8) := Int32.toBitVec_inj.mp (by_sh x.toBitVec ⟨0, by decide⟩)
theorem by_b (x k : Int32) : ∃ b : Nat, b ≤ 255 ∧ byS x k = Int32.ofNat b := by
  refine ⟨mm_un (byS x k), ?_, (wx_un _).symm⟩
  unfold byS
  rw [un_and]
  exact Nat.and_le_right
theorem bl_4 {V U : hV} {l : Nat} {x : Int32} (h : BL2 V U l) : BL2 (adV V l x) (rdV U l x) (l + 4) := bl_1 (bl_1 (bl_1 (bl_1 h (by_24 x) (by_b _ _)) (by_16 x) (by_b _ _)) (by_8 x) (by_b _ _)) (by_0 x) (by_b _ _)
theorem bl_ap {V U : hV} {l : Nat} {a b c d e : Int32} (h : BL2 V U l) : BL2 (apV V l a b c d e) (rpV U l a b c d e) (l + 20) := bl_4 (bl_4 (bl_4 (bl_4 (bl_4 h))))
theorem sum_hH (V : hV) : ∀ (sh : List mm_C) (a : Nat), mm_sum (hp V a sh) = shS sh
  | [], _ => rfl
  | c :: r, a => by
    show mm_sl (hc (V.1 a) (V.2 a) c) + mm_sum (hp V (a + 1) r) = _
    rw [sum_hH V r (a + 1)]
    have e : mm_sl (hc (V.1 a) (V.2 a) c) = mm_sl c := by
      match c with
      | .inl (0, n, z) => rfl
      | .inl (1, n, z) => rfl
      | .inl (t + 2, n, z) => rfl
      | .inr (.inl q) => rfl
      | .inr (.inr (ci, fs)) =>
        show (match Nat.ble 15 ci with
          | true => 6
          | false => (hz (V.1 a) 0 fs).length) = _
        rw [hz_len]
        rfl
    rw [e]
    unfold shS
    rw [List.map_cons, List.sum_cons]
theorem LT.room {r : Nat} {sh : List mm_C} {V : hV} {lc lr : Int32} {B : hB} (h : LT r sh V lc lr B) (hr : r ≤ 10000) : (hH sh V).length ≤ 601024 ∧ mm_sum (hH sh V) ≤ 7293034 := by
  obtain ⟨h1, h2, ⟨q, cap, c, a⟩, h4, h5, h6, h7, h8, h9, h10, h11, h12, h13⟩ := h
  have hc := capI_of a
  obtain ⟨a1, a2, a3, a4, a5, a6, a7, a8, a9, a10⟩ := a
  rw [hp_len, sum_hH]
  rw [hc] at h10 h11
  exact ⟨by omega, by omega⟩
end M77
