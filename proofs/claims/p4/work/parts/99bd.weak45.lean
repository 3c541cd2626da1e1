section M45
/-! ===== the class: rows exactly; names, formulas and lines read (that they end, what they leave as it is) ===== -/
def atF (g : Nat → Int32) (n : Nat) (i : Int32) : Int32 := if ¬ i < 0 ∧ i < Int32.ofNat n then g (mm_un i) else 0
def putV (V : hV) (a n : Nat) (i x : Int32) : hV := if ¬ i < 0 ∧ i < Int32.ofNat n then up V a (mm_un i) x else V
theorem putV_ne {V : hV} {a n : Nat} {i x : Int32} {b : Nat} (h : b ≠ a) : (putV V a n i x).1 b = V.1 b := by
  unfold putV
  split
  · exact funext fun j => up_ne _ _ (Or.inl h)
  · rfl
theorem fr_put {sh : List mm_C} {V : hV} {a n : Nat} {i x : Int32} (k : kA sh a n) : FR sh V (putV V a n i x) := by
  unfold putV
  split
  · exact fr_A k
  · exact FR.r sh V
theorem putV_up {V : hV} {a n i : Nat} {x : Int32} (h : i < n) (hn : n ≤ 100000) : putV V a n (Int32.ofNat i) x = up V a i x := by
  unfold putV
  rw [if_pos ⟨i_nlt (k := i) (n := 0) (Nat.zero_le _) (by omega), i_lt h (by omega)⟩, i_un (by omega)]
def wO (sh : List mm_C) (V : hV) : mm_V → mm_H → Prop := fun v g => ∃ W : hV, FR sh V W ∧ g = hH sh W ∧ (v = .inl (some .null) ∨ ∃ a, v = .inl (some (.ref a)) ∧ kOrder sh a)
section WW4
variable {S : ww_S} {D : Nat} {M : mm_M} {pc p9 nx : Nat} {L : mm_L} {st : List Value} {h : mm_H} {Q : mm_V → mm_H → Prop} {ax : List Nat} {sh : List mm_C} {V : hV}
theorem wp_retU (hk : mm_lk M.1 pc = some (p9, .areturn, nx, ax)) (hM : M.2.2.1 = 5) (q : Q (.inl (some .null)) h) : WP S D M pc L [.null] h Q := wp_ret hk rfl (by rw [hM]; rfl) q
theorem wp_ifnonnull_n {d : Int} {t : Nat} (hk : mm_lk M.1 pc = some (p9, .ifnonnull d, nx, [t])) (w : WP S D M nx L st h Q) : WP S D M pc L (.null :: st) h Q := wp_go hk rfl w
theorem wcvO {u kd j n ci a D' : Nat} {r : List Nat} {as st2 : List Value} {fs : List Value} (hk : mm_lk M.1 pc = some (p9, .invokevirtual u, nx, kd :: j :: n :: ci :: r)) (c : EVQ S D' j as (hH sh V) (wO sh V)) (hkd : kd = 0 ∨ kd = 5 ∨ kd = 3) (hb : (Nat.ble n st.length && mm_rst st n) = true) (ha : (st.take n).reverse = as) (hr : st.drop n = st2) (hv : st[n - 1]? = some (.ref a)) (h64 : 64 ≤ a) (hs : sh[a - 64]? = some (.inr (.inr (ci, fs)))) (hD : D' ≤ D) (cw1 : ∀ W : hV, FR sh V W → WP S D M nx L (.null :: st2) (hH sh W) Q) (w2 : ∀ (q : Nat) (W : hV), kOrder sh q → FR sh V W → WP S D M nx L (.ref q :: st2) (hH sh W) Q) : WP S D M pc L st (hH sh V) Q := by
  obtain ⟨v, g, e, W, f, rfl, h⟩ := c
  rcases h with rfl | ⟨q, rfl, hq⟩
  · exact wp_cv hk e hkd hb ha hr hv h64 hs hD (cw1 W f)
  · exact wp_cv hk e hkd hb ha hr hv h64 hs hD (w2 q W hq f)
end WW4
theorem s_at {S : ww_S} {sh : List mm_C} {V : hV} {a n : Nat} (hA : kR sh a n) (hn : n ≤ 100000) {i : Int32} : EV S 1 156 [.ref a, .int i] (hH sh V) (.inl (some (.int (atF (V.1 a) n i)))) (hH sh V) := by
  refine ev_qe P156 rfl ?_
  unfold atF
  by_cases h : ¬ i < 0 ∧ i < Int32.ofNat n
  · rw [if_pos h]
    refine wp_iload_n k156_0 rfl rfl ?_
    refine wp_if_lt_F k156_1 h.1 ?_
    refine wp_iload_n k156_4 rfl rfl ?_
    refine wp_aload_n k156_5 rfl rfl ?_
    refine wp_alen k156_6 rfl hA.h hA.o ?_
    refine wp_if_icmp_ge_F k156_7 h.2 ?_
    refine wp_aload_n k156_10 rfl rfl ?_
    refine wp_iload_n k156_11 rfl rfl ?_
    refine wp_iaload k156_12 hA.h hA.o (in_of h.1 h.2 hn) _ rfl _ rfl ?_
    refine wp_goto k156_13 ?_
    exact wp_reti k156_17 rfl rfl rfl
  · rw [if_neg h]
    by_cases h0 : i < 0
    · skip
      refine wp_iload_n k156_0 rfl rfl ?_
      refine wp_if_lt_T k156_1 h0 ?_
      refine wp_iconst 0 k156_16 (by decide) ?_
      exact wp_reti k156_17 rfl rfl rfl
    · skip
      refine wp_iload_n k156_0 rfl rfl ?_
      refine wp_if_lt_F k156_1 h0 ?_
      refine wp_iload_n k156_4 rfl rfl ?_
      refine wp_aload_n k156_5 rfl rfl ?_
      refine wp_alen k156_6 rfl hA.h hA.o ?_
      refine wp_if_icmp_ge_T k156_7 (fun q => h ⟨h0, q⟩) ?_
      refine wp_iconst 0 k156_16 (by decide) ?_
      exact wp_reti k156_17 rfl rfl rfl
theorem s_put {S : ww_S} {sh : List mm_C} {V : hV} {a n : Nat} (hA : kR sh a n) (hn : n ≤ 100000) {i x : Int32} : EV S 1 157 [.ref a, .int i, .int x] (hH sh V) (.inl none) (hH sh (putV V a n i x)) := by
  refine ev_qe P157 rfl ?_
  unfold putV
  by_cases h : ¬ i < 0 ∧ i < Int32.ofNat n
  · rw [if_pos h]
    refine wp_iload_n k157_0 rfl rfl ?_
    refine wp_if_lt_F k157_1 h.1 ?_
    refine wp_iload_n k157_4 rfl rfl ?_
    refine wp_aload_n k157_5 rfl rfl ?_
    refine wp_alen k157_6 rfl hA.h hA.o ?_
    refine wp_if_icmp_ge_F k157_7 h.2 ?_
    refine wp_aload_n k157_10 rfl rfl ?_
    refine wp_iload_n k157_11 rfl rfl ?_
    refine wp_iload_n k157_12 rfl rfl ?_
    refine wp_iastore k157_13 hA.h hA.o (in_of h.1 h.2 hn) _ rfl ?_
    exact wp_retn k157_14 rfl rfl
  · rw [if_neg h]
    by_cases h0 : i < 0
    · skip
      refine wp_iload_n k157_0 rfl rfl ?_
      refine wp_if_lt_T k157_1 h0 ?_
      exact wp_retn k157_14 rfl rfl
    · skip
      refine wp_iload_n k157_0 rfl rfl ?_
      refine wp_if_lt_F k157_1 h0 ?_
      refine wp_iload_n k157_4 rfl rfl ?_
      refine wp_aload_n k157_5 rfl rfl ?_
      refine wp_alen k157_6 rfl hA.h hA.o ?_
      refine wp_if_icmp_ge_T k157_7 (fun q => h ⟨h0, q⟩) ?_
      exact wp_retn k157_14 rfl rfl
def fadV (V : hV) (a : Nat) (x y : Int32) : hV := up (putV (putV V (a + 1) 60 (V.1 a 3) x) (a + 2) 60 (V.1 a 3) y) a 3 (if (60 : Int32) < V.1 a 3 + 1 then 60 else V.1 a 3 + 1)
theorem s_add {S : ww_S} {sh : List mm_C} {V : hV} {a : Nat} (h0 : kForm sh a) {x y : Int32} : EV S 2 9 [.ref a, .int x, .int y] (hH sh V) (.inl none) (hH sh (fadV V a x y)) := by
  have hv1 : (putV V (a + 1) 60 (V.1 a 3) x).1 a = V.1 a := putV_ne (by omega)
  have hv2 : (putV (putV V (a + 1) 60 (V.1 a 3) x) (a + 2) 60 (V.1 a 3) y).1 a = V.1 a := (putV_ne (by omega)).trans hv1
  refine ev_qe P9 rfl ?_
  refine wp_aload_n k9_0 rfl rfl ?_
  refine wq_getR k9_1 h0.1 rfl ?_
  refine wp_aload_n k9_4 rfl rfl ?_
  refine wq_getI k9_5 h0.1 rfl ?_
  refine wp_iload_n k9_8 rfl rfl ?_
  refine wp_csn (st2 := []) k9_9 (s_put h0.2.1.r (by decide)) (by decide) rfl rfl rfl (by decide) ?_
  refine wp_aload_n k9_12 rfl rfl ?_
  refine wq_getR k9_13 h0.1 rfl ?_
  refine wp_aload_n k9_16 rfl rfl ?_
  refine wp_getI k9_17 h0.1.h h0.1.o rfl (V.1 a 3) (congrFun hv1 3) ?_
  refine wp_iload_n k9_20 rfl rfl ?_
  refine wp_csn (st2 := []) k9_21 (s_put h0.2.2.1.r (by decide)) (by decide) rfl rfl rfl (by decide) ?_
  refine wp_aload_n k9_24 rfl rfl ?_
  refine wp_aload_n k9_25 rfl rfl ?_
  refine wp_getI k9_26 h0.1.h h0.1.o rfl (V.1 a 3) (congrFun hv2 3) ?_
  refine wp_iconst 1 k9_29 (by decide) ?_
  refine wp_iadd k9_30 ?_
  refine wp_bipush 60 k9_31 (by decide) ?_
  refine wp_min k9_33 rfl ?_
  refine wp_putI k9_36 h0.1.h h0.1.o rfl rfl rfl ?_
  exact wp_retn k9_39 rfl rfl
theorem fr_fad {sh : List mm_C} {V : hV} {a : Nat} {x y : Int32} (h0 : kForm sh a) : FR sh V (fadV V a x y) := ((fr_put h0.2.1).t (fr_put h0.2.2.1)).t (fr_O h0.1 (Or.inl (h0.1.n rfl)) rfl)
theorem form_ne {sh : List mm_C} {p : Nat} (hF : kFR sh) (hp : kForm sh p) : p ≠ 76 ∧ p + 1 ≠ 76 ∧ p + 2 ≠ 76 := by
  have hc := hF.1.o
  refine ⟨fun e => ?_, fun e => ?_, fun e => ?_⟩
  · subst e
    rw [hp.1.o] at hc
    cases hc
  · have h := hp.2.1.o
    rw [e, hc] at h
    cases h
  · have h := hp.2.2.1.o
    rw [e, hc] at h
    cases h
theorem fad_76 {sh : List mm_C} {V : hV} {a : Nat} {x y : Int32} (hF : kFR sh) (hp : kForm sh a) : (fadV V a x y).1 76 3 = V.1 76 3 := by
  obtain ⟨h1, h2, h3⟩ := form_ne hF hp
  refine (up_ne _ _ (Or.inl (Ne.symm h1))).trans ((congrFun (putV_ne (Ne.symm h3)) 3).trans (congrFun (putV_ne (Ne.symm h2)) 3))
theorem cw24 {S : ww_S} {sh : List mm_C} {V : hV} (h0 : kFR sh) {p1 : Int32} {p2 : Nat} (h2 : kForm sh p2) : EVQ S 3 24 [.ref 76, .int p1, .ref p2] (hH sh V) (wN sh V) := by
  have key : ∀ (m : Nat) (W : hV), meb (W.1 76 3) < m → FR sh V W → WP S 2 mm_m24 0 [some (.ref 76), some (.int p1), some (.ref p2)] [] (hH sh W) (wN sh V) := by
    intro m
    induction m with
    | zero =>
      intro W hm f
      exact absurd hm (Nat.not_lt_zero _)
    | succ m ih =>
      intro W hm f
      refine wp_aload_n k24_0 rfl rfl ?_
      refine wq_getI k24_1 h0.1 rfl ?_
      refine wp_if_le k24_4 (fun c4 => ?_) (fun c4 => ?_)
      · exact wp_retN k24_63 rfl ⟨_, rfl, rfl, f⟩
      · refine wp_aload_n k24_7 rfl rfl ?_
        refine wq_getR k24_8 h0.1 rfl ?_
        refine wp_aload_n k24_11 rfl rfl ?_
        refine wq_getI k24_12 h0.1 rfl ?_
        refine wp_iconst 1 k24_15 (by decide) ?_
        refine wp_isub k24_16 ?_
        refine wp_cs (st2 := []) k24_17 (s_at h0.2.2.1.r (by decide)) (by decide) rfl rfl rfl (by decide) ?_
        refine wp_iload_n k24_20 rfl rfl ?_
        refine wp_if_icmp_gt k24_21 (fun c21 => ?_) (fun c21 => ?_)
        · exact wp_retN k24_63 rfl ⟨_, rfl, rfl, f⟩
        · refine wp_aload_n k24_24 rfl rfl ?_
          refine wp_dup k24_25 rfl ?_
          refine wq_getI k24_26 h0.1 rfl ?_
          refine wp_iconst 1 k24_29 (by decide) ?_
          refine wp_isub k24_30 ?_
          refine wp_putI k24_31 h0.1.h h0.1.o rfl rfl rfl ?_
          obtain ⟨U, hU⟩ : ∃ U, up W 76 3 (W.1 76 3 - 1) = U := ⟨_, rfl⟩
          have g : FR sh W U := hU ▸ fr_O h0.1 (Or.inr (by decide)) rfl
          have q : U.1 76 3 = W.1 76 3 - 1 := by
            rw [← hU]
            exact up_eq _ _ _ _
          rw [hU]
          refine wp_aload_n k24_34 rfl rfl ?_
          refine wp_aload_n k24_35 rfl rfl ?_
          refine wq_getR k24_36 h0.1 rfl ?_
          refine wp_aload_n k24_39 rfl rfl ?_
          refine wq_getI k24_40 h0.1 rfl ?_
          refine wp_cs (st2 := [_]) k24_43 (s_at h0.2.2.1.r (by decide)) (by decide) rfl rfl rfl (by decide) ?_
          refine wp_aload_n k24_46 rfl rfl ?_
          refine wq_getR k24_47 h0.1 rfl ?_
          refine wp_aload_n k24_50 rfl rfl ?_
          refine wq_getI k24_51 h0.1 rfl ?_
          refine wp_cs (st2 := [_, _]) k24_54 (s_at h0.2.2.2.r (by decide)) (by decide) rfl rfl rfl (by decide) ?_
          refine wp_cvn (st2 := []) k24_57 (s_add h2) (by decide) rfl rfl rfl rfl h2.1.h h2.1.o (by decide) ?_
          refine wp_goto k24_60 ?_
          refine ih _ ?_ ((f.t g).t (fr_fad h2))
          rw [fad_76 h0 h2, q, Int32.sub_eq_add_neg]
          exact Nat.lt_of_lt_of_le (meb_s (fun z => absurd (Int32.lt_trans c4 z) (by decide))) (Nat.le_of_lt_succ hm)
  refine ev_of P24 rfl ?_
  exact key _ V (Nat.lt_succ_self _) (FR.r sh V)
theorem cn_of {sh : List mm_C} {W : hV} {p : Nat} (h : CN sh W) (k : kNames sh p) : ∃ n : Nat, n ≤ 5 ∧ W.1 p 1 = Int32.ofNat n := h p _ k.1.h k.1.o
theorem cn_lt {sh : List mm_C} {W : hV} {p : Nat} (h : CN sh W) (k : kNames sh p) : W.1 p 1 < 2147483647 := by
  obtain ⟨n, h5, e⟩ := cn_of h k
  rw [e]
  exact i_lt (n := 2147483647) (by omega) (by decide)
theorem fr_N {sh : List mm_C} {V : hV} {q : Nat} {fs : List Value} (k : kO sh q 7 fs) {x : Int32} (hx : ∃ n : Nat, n ≤ 5 ∧ x = Int32.ofNat n) : FR sh V (up V q 1 x) := by
  refine ⟨up_ne _ _ (Or.inr (by decide)), fun b hb => ⟨funext fun j => up_ne _ _ (Or.inl fun e => hb (e ▸ k.np)), rfl⟩, fun hc p gs h64 hp => ?_⟩
  by_cases e : p = q
  · subst e
    obtain ⟨n, h5, hn⟩ := hx
    exact ⟨n, h5, (up_eq _ _ _ _).trans hn⟩
  · rw [up_ne _ _ (Or.inl e)]
    exact hc p gs h64 hp
theorem cw50 {S : ww_S} {sh : List mm_C} {V : hV} {q : Nat} (h0 : kNames sh q) (hlt : ∃ n : Nat, n < 5 ∧ V.1 q 1 = Int32.ofNat n) {x : Int32} : EVQ S 2 50 [.ref q, .int x] (hH sh V) (wN sh V) := by
  have hv1 : (putV V (q + 1) 5 (V.1 q 1) x).1 q = V.1 q := putV_ne (by omega)
  obtain ⟨n, h5, hn⟩ := hlt
  refine ev_of P50 rfl ?_
  refine wp_aload_n k50_0 rfl rfl ?_
  refine wq_getR k50_1 h0.1 rfl ?_
  refine wp_aload_n k50_4 rfl rfl ?_
  refine wq_getI k50_5 h0.1 rfl ?_
  refine wp_iload_n k50_8 rfl rfl ?_
  refine wp_csn (st2 := []) k50_9 (s_put h0.2.r (by decide)) (by decide) rfl rfl rfl (by decide) ?_
  refine wp_aload_n k50_12 rfl rfl ?_
  refine wp_dup k50_13 rfl ?_
  refine wp_getI k50_14 h0.1.h h0.1.o rfl (V.1 q 1) (congrFun hv1 1) ?_
  refine wp_iconst 1 k50_17 (by decide) ?_
  refine wp_iadd k50_18 ?_
  refine wp_putI k50_19 h0.1.h h0.1.o rfl rfl rfl ?_
  exact wp_retN k50_22 rfl ⟨_, rfl, rfl, (fr_put h0.2).t (fr_N h0.1 ⟨n + 1, by omega, by rw [hn, i_succ]⟩)⟩
theorem s_isFull {S : ww_S} {sh : List mm_C} {V : hV} {q : Nat} (h0 : kNames sh q) : EV S 1 49 [.ref q] (hH sh V) (.inl (some (.int (bI (!decide (V.1 q 1 < 5)))))) (hH sh V) := by
  refine ev_qe P49 rfl ?_
  refine wp_aload_n k49_0 rfl rfl ?_
  refine wq_getI k49_1 h0.1 rfl ?_
  refine wp_aload_n k49_4 rfl rfl ?_
  refine wq_getR k49_5 h0.1 rfl ?_
  refine wp_alen k49_8 rfl h0.2.h h0.2.o ?_
  refine wp_if_icmp_lt k49_9 (fun c9 => ?_) (fun c9 => ?_)
  · refine wp_iconst 0 k49_16 (by decide) ?_
    exact wp_retz k49_17 rfl (by rw [decide_eq_true (show V.1 q 1 < 5 from c9)]; rfl) rfl
  · refine wp_iconst 1 k49_12 (by decide) ?_
    refine wp_goto k49_13 ?_
    exact wp_retz k49_17 rfl (by rw [decide_eq_false (show ¬ V.1 q 1 < 5 from c9)]; rfl) rfl
theorem cn_lt5 {sh : List mm_C} {W : hV} {p : Nat} (h : CN sh W) (k : kNames sh p) (c : bI (!decide (W.1 p 1 < 5)) = 0) : ∃ n : Nat, n < 5 ∧ W.1 p 1 = Int32.ofNat n := by
  obtain ⟨n, h5, e⟩ := cn_of h k
  refine ⟨n, ?_, e⟩
  have c1 := bI_0.mp c
  have c2 : W.1 p 1 < 5 := by
    by_cases z : W.1 p 1 < 5
    · exact z
    · rw [decide_eq_false z] at c1
      cases c1
  rw [e] at c2
  exact (Int32.ofNat_lt_iff_lt (by omega) (by omega)).mp (show Int32.ofNat n < Int32.ofNat 5 from c2)
theorem cw82 {S : ww_S} {sh : List mm_C} {V : hV} (h0 : kSrc sh) {p1 : Nat} (h1 : kNames sh p1) (hC : CN sh V) : EVQ S 3 82 [.ref 65, .ref p1] (hH sh V) (wN sh V) := by
  have f0 := FR.r sh V
  have j74 : ∀  (W74 : hV), FR sh V W74 → WP S 2 mm_m82 74 [some (.ref 65), some (.ref p1)] [] (hH sh W74) (wN sh V) := by
    intro W74 f74
    exact wp_retN k82_74 rfl ⟨_, rfl, rfl, f74⟩
  refine ev_of P82 rfl ?_
  refine wp_aload_n k82_0 rfl rfl ?_
  refine wcvZ (st2 := []) k82_1 (cw78 (S := S) h0) (by decide) rfl rfl rfl rfl (by decide) h0.1.o (by decide) (fun b1 W1 g1 => ?_)
  have f1 := FR.t f0 g1
  refine wp_if_ne k82_4 (fun c4 => ?_) (fun c4 => ?_)
  · refine wp_aload_n k82_19 rfl rfl ?_
    refine wp_aload_n k82_20 rfl rfl ?_
    refine wq_getI k82_21 h0.1 rfl ?_
    refine wcvI (st2 := []) k82_24 (cw51 (S := S) h1) (by decide) rfl rfl rfl rfl h1.1.h h1.1.o (by decide) (fun x24 W24 g24 => ?_)
    have f24 := FR.t f1 g24
    refine wp_iconst (-1) k82_27 (by decide) ?_
    refine wp_if_icmp_eq k82_28 (fun c28 => ?_) (fun c28 => ?_)
    · refine wp_aload_n k82_43 rfl rfl ?_
      refine wp_cv (st2 := []) k82_44 (s_isFull (S := S) h1) (by decide) rfl rfl rfl rfl h1.1.h h1.1.o (by decide) ?_
      refine wp_if_eq k82_47 (fun c47 => ?_) (fun c47 => ?_)
      · refine wp_aload_n k82_62 rfl rfl ?_
        refine wp_aload_n k82_63 rfl rfl ?_
        refine wq_getI k82_64 h0.1 rfl ?_
        refine wcvN (st2 := []) k82_67 (cw50 (S := S) h1 (cn_lt5 (f24.2.2 hC) h1 c47)) (by decide) rfl rfl rfl rfl h1.1.h h1.1.o (by decide) (fun W67 g67 => ?_)
        have f67 := FR.t f24 g67
        refine wp_aload_n k82_70 rfl rfl ?_
        refine wcvN (st2 := []) k82_71 (cw74 (S := S) h0) (by decide) rfl rfl rfl rfl (by decide) h0.1.o (by decide) (fun W71 g71 => ?_)
        have f71 := FR.t f67 g71
        exact j74  _ f71
      · refine wp_aload_n k82_50 rfl rfl ?_
        refine wp_iconst 3 k82_51 (by decide) ?_
        refine wp_aload_n k82_52 rfl rfl ?_
        refine wq_getI k82_53 h0.1 rfl ?_
        refine wcvN (st2 := []) k82_56 (cw75 (S := S) h0) (by decide) rfl rfl rfl rfl (by decide) h0.1.o (by decide) (fun W56 g56 => ?_)
        have f56 := FR.t f24 g56
        refine wp_goto k82_59 ?_
        exact j74  _ f56
    · refine wp_aload_n k82_31 rfl rfl ?_
      refine wp_iconst 2 k82_32 (by decide) ?_
      refine wp_aload_n k82_33 rfl rfl ?_
      refine wq_getI k82_34 h0.1 rfl ?_
      refine wcvN (st2 := []) k82_37 (cw75 (S := S) h0) (by decide) rfl rfl rfl rfl (by decide) h0.1.o (by decide) (fun W37 g37 => ?_)
      have f37 := FR.t f24 g37
      refine wp_goto k82_40 ?_
      exact j74  _ f37
  · refine wp_aload_n k82_7 rfl rfl ?_
    refine wp_iconst 1 k82_8 (by decide) ?_
    refine wp_aload_n k82_9 rfl rfl ?_
    refine wq_getI k82_10 h0.1 rfl ?_
    refine wcvN (st2 := []) k82_13 (cw75 (S := S) h0) (by decide) rfl rfl rfl rfl (by decide) h0.1.o (by decide) (fun W13 g13 => ?_)
    have f13 := FR.t f1 g13
    refine wp_goto k82_16 ?_
    exact j74  _ f13
theorem cw85 {S : ww_S} {sh : List mm_C} {V : hV} (h0 : kSrc sh) {p1 : Nat} (h1 : kNames sh p1) (hC : CN sh V) : EVQ S 3 85 [.ref 65, .ref p1] (hH sh V) (wI sh V) := by
  have f0 := FR.r sh V
  have j71 : ∀ (x2_71 : Int32) (x3_71 : Int32) (y4_71 : Option Value) (W71 : hV), FR sh V W71 → WP S 2 mm_m85 71 [some (.ref 65), some (.ref p1), some (.int x2_71), some (.int x3_71), y4_71] [] (hH sh W71) (wI sh V) := by
    intro x2_71 x3_71 y4_71 W71 f71
    refine wp_iload_n k85_71 rfl rfl ?_
    exact wp_retI k85_72 rfl ⟨_, _, rfl, rfl, f71⟩
  have j4 : ∀ (m4 : Nat) (x2_4 : Int32) (x3_4 : Int32) (y4_4 : Option Value) (W4 : hV), mea x3_4 < m4 → FR sh V W4 → WP S 2 mm_m85 4 [some (.ref 65), some (.ref p1), some (.int x2_4), some (.int x3_4), y4_4] [] (hH sh W4) (wI sh V) := by
    intro m4
    induction m4 with
    | zero =>
      intro x2_4 x3_4 y4_4 W4 hm4 f4
      exact absurd hm4 (Nat.not_lt_zero _)
    | succ m4 ih4 =>
      intro x2_4 x3_4 y4_4 W4 hm4 f4
      have j44 : ∀ (x4_44 : Int32) (W44 : hV), mea (x3_4 + 1) < m4 → FR sh V W44 → WP S 2 mm_m85 44 [some (.ref 65), some (.ref p1), some (.int x2_4), some (.int x3_4), some (.int x4_44)] [] (hH sh W44) (wI sh V) := by
        intro x4_44 W44 hd4 f44
        refine wp_aload_n k85_44 rfl rfl ?_
        refine wcvZ (st2 := []) k85_45 (cw76 (S := S) h0) (by decide) rfl rfl rfl rfl (by decide) h0.1.o (by decide) (fun b45 W45 g45 => ?_)
        have f45 := FR.t f44 g45
        refine wp_if_eq k85_48 (fun c48 => ?_) (fun c48 => ?_)
        · refine wp_iload_n k85_53 rfl rfl ?_
          refine wp_iload k85_54 rfl rfl ?_
          refine wcsI (st2 := [_]) k85_56 (cw160 (S := S)) (by decide) rfl rfl rfl (by decide) (fun x56 W56 g56 => ?_)
          have f56 := FR.t f45 g56
          refine wp_ior k85_59 ?_
          refine wp_istore_n (L1 := [_, _, _, _, _]) k85_60 rfl rfl ?_
          refine wp_aload_n k85_61 rfl rfl ?_
          refine wcvN (st2 := []) k85_62 (cw74 (S := S) h0) (by decide) rfl rfl rfl rfl (by decide) h0.1.o (by decide) (fun W62 g62 => ?_)
          have f62 := FR.t f56 g62
          refine wp_iinc (L1 := [_, _, _, _, _]) 1 k85_65 rfl (by decide) rfl ?_
          refine wp_goto k85_68 ?_
          exact ih4 _ _ _ _ hd4 f62
        · refine wp_iload_n k85_51 rfl rfl ?_
          exact wp_retI k85_52 rfl ⟨_, _, rfl, rfl, f45⟩
      refine wp_iload_n k85_4 rfl rfl ?_
      refine wp_aload_n k85_5 rfl rfl ?_
      refine wq_getI k85_6 h1.1 rfl ?_
      refine wp_if_icmp_gt k85_9 (fun c9 => ?_) (fun c9 => ?_)
      · exact j71 _ _ _ _ f4
      · have hd4 : mea (x3_4 + 1) < m4 := Nat.lt_of_lt_of_le (mea_n c9 (cn_lt (f4.2.2 hC) h1)) (Nat.le_of_lt_succ hm4)
        refine wp_aload_n k85_12 rfl rfl ?_
        refine wcvZ (st2 := []) k85_13 (cw78 (S := S) h0) (by decide) rfl rfl rfl rfl (by decide) h0.1.o (by decide) (fun b13 W13 g13 => ?_)
        have f13 := FR.t f4 g13
        refine wp_if_eq k85_16 (fun c16 => ?_) (fun c16 => ?_)
        · exact j71 _ _ _ _ f13
        · refine wp_aload_n k85_19 rfl rfl ?_
          refine wp_aload_n k85_20 rfl rfl ?_
          refine wcvI (st2 := []) k85_21 (cw83 (S := S) h0 h1) (by decide) rfl rfl rfl rfl (by decide) h0.1.o (by decide) (fun x21 W21 g21 => ?_)
          have f21 := FR.t f13 g21
          refine wp_istore (L1 := [_, _, _, _, _]) k85_24 rfl rfl ?_
          refine wp_iload_n k85_26 rfl rfl ?_
          refine wp_iload k85_27 rfl rfl ?_
          refine wcsZ (st2 := []) k85_29 (cw159 (S := S)) (by decide) rfl rfl rfl (by decide) (fun b29 W29 g29 => ?_)
          have f29 := FR.t f21 g29
          refine wp_if_eq k85_32 (fun c32 => ?_) (fun c32 => ?_)
          · exact j44 _ _ hd4 f29
          · refine wp_aload_n k85_35 rfl rfl ?_
            refine wp_iconst 2 k85_36 (by decide) ?_
            refine wp_aload_n k85_37 rfl rfl ?_
            refine wq_getI k85_38 h0.1 rfl ?_
            refine wcvN (st2 := []) k85_41 (cw75 (S := S) h0) (by decide) rfl rfl rfl rfl (by decide) h0.1.o (by decide) (fun W41 g41 => ?_)
            have f41 := FR.t f29 g41
            exact j44 _ _ hd4 f41
  refine ev_of P85 rfl ?_
  refine wp_iconst 0 k85_0 (by decide) ?_
  refine wp_istore_n (L1 := [_, _, _, _, _]) k85_1 rfl rfl ?_
  refine wp_iconst 0 k85_2 (by decide) ?_
  refine wp_istore_n (L1 := [_, _, _, _, _]) k85_3 rfl rfl ?_
  exact j4 _ _ _ _ _ (Nat.lt_succ_self _) f0
theorem cw22 {S : ww_S} {sh : List mm_C} {V : hV} (h0 : kFR sh) : EVQ S 3 22 [.ref 76] (hH sh V) (wZ sh V) := by
  have f0 := FR.r sh V
  refine ev_of P22 rfl ?_
  refine wp_aload_n k22_0 rfl rfl ?_
  refine wq_getI k22_1 h0.1 rfl ?_
  refine wp_bipush 60 k22_4 (by decide) ?_
  refine wp_if_icmp_lt k22_6 (fun c6 => ?_) (fun c6 => ?_)
  · refine wp_aload_n k22_26 rfl rfl ?_
    refine wp_dup k22_27 rfl ?_
    refine wq_getI k22_28 h0.1 rfl ?_
    refine wp_iconst 1 k22_31 (by decide) ?_
    refine wp_iadd k22_32 ?_
    refine wq_putI k22_33 h0.1 rfl rfl rfl (Or.inr (by decide)) rfl (fun W33 g33 => ?_)
    have f33 := FR.t f0 g33
    refine wp_aload_n k22_36 rfl rfl ?_
    refine wq_getR k22_37 h0.1 rfl ?_
    refine wcvN (st2 := []) k22_40 (cw74 (S := S) h0.2.1) (by decide) rfl rfl rfl rfl (by decide) h0.2.1.1.o (by decide) (fun W40 g40 => ?_)
    have f40 := FR.t f33 g40
    refine wp_iconst 1 k22_43 (by decide) ?_
    exact wp_retZ (b := true) k22_44 rfl ⟨true, _, rfl, rfl, f40⟩
  · refine wp_aload_n k22_9 rfl rfl ?_
    refine wq_getR k22_10 h0.1 rfl ?_
    refine wp_iconst 3 k22_13 (by decide) ?_
    refine wp_aload_n k22_14 rfl rfl ?_
    refine wq_getR k22_15 h0.1 rfl ?_
    refine wq_getI k22_18 h0.2.1.1 rfl ?_
    refine wcvN (st2 := []) k22_21 (cw75 (S := S) h0.2.1) (by decide) rfl rfl rfl rfl (by decide) h0.2.1.1.o (by decide) (fun W21 g21 => ?_)
    have f21 := FR.t f0 g21
    refine wp_iconst 0 k22_24 (by decide) ?_
    exact wp_retZ (b := false) k22_25 rfl ⟨false, _, rfl, rfl, f21⟩
theorem cw23 {S : ww_S} {sh : List mm_C} {V : hV} (h0 : kFR sh) {p1 : Int32} {p2 : Int32} : EVQ S 2 23 [.ref 76, .int p1, .int p2] (hH sh V) (wN sh V) := by
  have f0 := FR.r sh V
  refine ev_of P23 rfl ?_
  refine wp_aload_n k23_0 rfl rfl ?_
  refine wq_getR k23_1 h0.1 rfl ?_
  refine wp_aload_n k23_4 rfl rfl ?_
  refine wq_getI k23_5 h0.1 rfl ?_
  refine wp_iload_n k23_8 rfl rfl ?_
  refine wcsN (st2 := []) k23_9 (cw157 (S := S) h0.2.2.1 (by decide)) (by decide) rfl rfl rfl (by decide) (fun W9 g9 => ?_)
  have f9 := FR.t f0 g9
  refine wp_aload_n k23_12 rfl rfl ?_
  refine wq_getR k23_13 h0.1 rfl ?_
  refine wp_aload_n k23_16 rfl rfl ?_
  refine wq_getI k23_17 h0.1 rfl ?_
  refine wp_iload_n k23_20 rfl rfl ?_
  refine wcsN (st2 := []) k23_21 (cw157 (S := S) h0.2.2.2 (by decide)) (by decide) rfl rfl rfl (by decide) (fun W21 g21 => ?_)
  have f21 := FR.t f9 g21
  refine wp_aload_n k23_24 rfl rfl ?_
  refine wp_dup k23_25 rfl ?_
  refine wq_getI k23_26 h0.1 rfl ?_
  refine wp_iconst 1 k23_29 (by decide) ?_
  refine wp_iadd k23_30 ?_
  refine wq_putI k23_31 h0.1 rfl rfl rfl (Or.inr (by decide)) rfl (fun W31 g31 => ?_)
  have f31 := FR.t f21 g31
  exact wp_retN k23_34 rfl ⟨_, rfl, rfl, f31⟩
theorem cw19 {S : ww_S} {sh : List mm_C} {V : hV} (h0 : kFR sh) : EVQ S 3 19 [.ref 76] (hH sh V) (wN sh V) := by
  have f0 := FR.r sh V
  have j51 : ∀  (W51 : hV), FR sh V W51 → WP S 2 mm_m19 51 [some (.ref 76)] [] (hH sh W51) (wN sh V) := by
    intro W51 f51
    exact wp_retN k19_51 rfl ⟨_, rfl, rfl, f51⟩
  refine ev_of P19 rfl ?_
  refine wp_aload_n k19_0 rfl rfl ?_
  refine wq_getI k19_1 h0.1 rfl ?_
  refine wp_bipush 8 k19_4 (by decide) ?_
  refine wp_if_icmp_lt k19_6 (fun c6 => ?_) (fun c6 => ?_)
  · refine wp_aload_n k19_27 rfl rfl ?_
    refine wp_dup k19_28 rfl ?_
    refine wq_getI k19_29 h0.1 rfl ?_
    refine wp_iconst 1 k19_32 (by decide) ?_
    refine wp_iadd k19_33 ?_
    refine wq_putI k19_34 h0.1 rfl rfl rfl (Or.inl (by decide)) rfl (fun W34 g34 => ?_)
    have f34 := FR.t f0 g34
    refine wp_aload_n k19_37 rfl rfl ?_
    refine wp_bipush 8 k19_38 (by decide) ?_
    refine wp_iconst 0 k19_40 (by decide) ?_
    refine wcvN (st2 := []) k19_41 (cw23 (S := S) h0) (by decide) rfl rfl rfl rfl (by decide) h0.1.o (by decide) (fun W41 g41 => ?_)
    have f41 := FR.t f34 g41
    refine wp_aload_n k19_44 rfl rfl ?_
    refine wq_getR k19_45 h0.1 rfl ?_
    refine wcvN (st2 := []) k19_48 (cw74 (S := S) h0.2.1) (by decide) rfl rfl rfl rfl (by decide) h0.2.1.1.o (by decide) (fun W48 g48 => ?_)
    have f48 := FR.t f41 g48
    exact j51  _ f48
  · refine wp_aload_n k19_9 rfl rfl ?_
    refine wq_getR k19_10 h0.1 rfl ?_
    refine wp_iconst 1 k19_13 (by decide) ?_
    refine wp_aload_n k19_14 rfl rfl ?_
    refine wq_getR k19_15 h0.1 rfl ?_
    refine wq_getI k19_18 h0.2.1.1 rfl ?_
    refine wcvN (st2 := []) k19_21 (cw75 (S := S) h0.2.1) (by decide) rfl rfl rfl rfl (by decide) h0.2.1.1.o (by decide) (fun W21 g21 => ?_)
    have f21 := FR.t f0 g21
    refine wp_goto k19_24 ?_
    exact j51  _ f21
theorem cw20 {S : ww_S} {sh : List mm_C} {V : hV} (h0 : kFR sh) {p1 : Nat} (h1 : kForm sh p1) : EVQ S 4 20 [.ref 76, .ref p1] (hH sh V) (wN sh V) := by
  have f0 := FR.r sh V
  have j31 : ∀ (x2_31 : Int32) (W31 : hV), FR sh V W31 → WP S 3 mm_m20 31 [some (.ref 76), some (.ref p1), some (.int x2_31)] [] (hH sh W31) (wN sh V) := by
    intro x2_31 W31 f31
    exact wp_retN k20_31 rfl ⟨_, rfl, rfl, f31⟩
  refine ev_of P20 rfl ?_
  refine wp_aload_n k20_0 rfl rfl ?_
  refine wq_getR k20_1 h0.1 rfl ?_
  refine wq_getI k20_4 h0.2.1.1 rfl ?_
  refine wp_sipush 256 k20_7 (by decide) ?_
  refine wp_isub k20_10 ?_
  refine wp_istore_n (L1 := [_, _, _]) k20_11 rfl rfl ?_
  refine wp_aload_n k20_12 rfl rfl ?_
  refine wcvZ (st2 := []) k20_13 (cw22 (S := S) h0) (by decide) rfl rfl rfl rfl (by decide) h0.1.o (by decide) (fun b13 W13 g13 => ?_)
  have f13 := FR.t f0 g13
  refine wp_if_eq k20_16 (fun c16 => ?_) (fun c16 => ?_)
  · exact j31 _ _ f13
  · refine wp_aload_n k20_19 rfl rfl ?_
    refine wp_iload_n k20_20 rfl rfl ?_
    refine wp_aload_n k20_21 rfl rfl ?_
    refine wcvN (st2 := []) k20_22 (cw24 (S := S) h0 h1) (by decide) rfl rfl rfl rfl (by decide) h0.1.o (by decide) (fun W22 g22 => ?_)
    have f22 := FR.t f13 g22
    refine wp_aload_n k20_25 rfl rfl ?_
    refine wp_iload_n k20_26 rfl rfl ?_
    refine wp_iconst 0 k20_27 (by decide) ?_
    refine wcvN (st2 := []) k20_28 (cw23 (S := S) h0) (by decide) rfl rfl rfl rfl (by decide) h0.1.o (by decide) (fun W28 g28 => ?_)
    have f28 := FR.t f22 g28
    exact j31 _ _ f28
theorem cw21 {S : ww_S} {sh : List mm_C} {V : hV} (h0 : kFR sh) {p1 : Nat} (h1 : kForm sh p1) : EVQ S 4 21 [.ref 76, .ref p1] (hH sh V) (wN sh V) := by
  have f0 := FR.r sh V
  have j39 : ∀  (W39 : hV), FR sh V W39 → WP S 3 mm_m21 39 [some (.ref 76), some (.ref p1)] [] (hH sh W39) (wN sh V) := by
    intro W39 f39
    exact wp_retN k21_39 rfl ⟨_, rfl, rfl, f39⟩
  refine ev_of P21 rfl ?_
  refine wp_aload_n k21_0 rfl rfl ?_
  refine wq_getR k21_1 h0.1 rfl ?_
  refine wp_bipush 41 k21_4 (by decide) ?_
  refine wcvZ (st2 := []) k21_6 (cw80 (S := S) h0.2.1) (by decide) rfl rfl rfl rfl (by decide) h0.2.1.1.o (by decide) (fun b6 W6 g6 => ?_)
  have f6 := FR.t f0 g6
  refine wp_if_eq k21_9 (fun c9 => ?_) (fun c9 => ?_)
  · exact j39  _ f6
  · refine wp_aload_n k21_12 rfl rfl ?_
    refine wp_bipush 7 k21_13 (by decide) ?_
    refine wp_aload_n k21_15 rfl rfl ?_
    refine wcvN (st2 := []) k21_16 (cw24 (S := S) h0 h1) (by decide) rfl rfl rfl rfl (by decide) h0.1.o (by decide) (fun W16 g16 => ?_)
    have f16 := FR.t f6 g16
    refine wp_aload_n k21_19 rfl rfl ?_
    refine wp_dup k21_20 rfl ?_
    refine wq_getI k21_21 h0.1 rfl ?_
    refine wp_iconst 1 k21_24 (by decide) ?_
    refine wp_isub k21_25 ?_
    refine wq_putI k21_26 h0.1 rfl rfl rfl (Or.inr (by decide)) rfl (fun W26 g26 => ?_)
    have f26 := FR.t f16 g26
    refine wp_aload_n k21_29 rfl rfl ?_
    refine wp_dup k21_30 rfl ?_
    refine wq_getI k21_31 h0.1 rfl ?_
    refine wp_iconst 1 k21_34 (by decide) ?_
    refine wp_isub k21_35 ?_
    refine wq_putI k21_36 h0.1 rfl rfl rfl (Or.inl (by decide)) rfl (fun W36 g36 => ?_)
    have f36 := FR.t f26 g36
    exact j39  _ f36
theorem cw18 {S : ww_S} {sh : List mm_C} {V : hV} (h0 : kFR sh) {p1 : Nat} (h1 : kScene sh p1) {p2 : Int32} {p3 : Nat} (h3 : kForm sh p3) : EVQ S 4 18 [.ref 76, .ref p1, .int p2, .ref p3] (hH sh V) (wZ sh V) := by
  have f0 := FR.r sh V
  have j120 : ∀ (x4_120 : Int32) (x5_120 : Int32) (W120 : hV), FR sh V W120 → WP S 3 mm_m18 120 [some (.ref 76), some (.ref p1), some (.int p2), some (.ref p3), some (.int x4_120), some (.int x5_120)] [] (hH sh W120) (wZ sh V) := by
    intro x4_120 x5_120 W120 f120
    refine wp_iconst 0 k18_120 (by decide) ?_
    exact wp_retZ (b := false) k18_121 rfl ⟨false, _, rfl, rfl, f120⟩
  have j87 : ∀ (x4_87 : Int32) (W87 : hV), FR sh V W87 → WP S 3 mm_m18 87 [some (.ref 76), some (.ref p1), some (.int p2), some (.ref p3), some (.int x4_87), none] [] (hH sh W87) (wZ sh V) := by
    intro x4_87 W87 f87
    refine wp_aload_n k18_87 rfl rfl ?_
    refine wq_getR k18_88 h0.1 rfl ?_
    refine wp_aload_n k18_91 rfl rfl ?_
    refine wq_getR k18_92 h1.1 rfl ?_
    refine wcvI (st2 := []) k18_95 (cw83 (S := S) h0.2.1 h1.2.1) (by decide) rfl rfl rfl rfl (by decide) h0.2.1.1.o (by decide) (fun x95 W95 g95 => ?_)
    have f95 := FR.t f87 g95
    refine wp_istore (L1 := [_, _, _, _, _, _]) k18_98 rfl rfl ?_
    refine wp_iload k18_100 rfl rfl ?_
    refine wp_iconst (-1) k18_102 (by decide) ?_
    refine wp_if_icmp_eq k18_103 (fun c103 => ?_) (fun c103 => ?_)
    · exact j120 _ _ _ f95
    · refine wp_aload_n k18_106 rfl rfl ?_
      refine wcvZ (st2 := []) k18_107 (cw22 (S := S) h0) (by decide) rfl rfl rfl rfl (by decide) h0.1.o (by decide) (fun b107 W107 g107 => ?_)
      have f107 := FR.t f95 g107
      refine wp_if_eq k18_110 (fun c110 => ?_) (fun c110 => ?_)
      · exact j120 _ _ _ f107
      · refine wp_aload_n k18_113 rfl rfl ?_
        refine wp_iconst 0 k18_114 (by decide) ?_
        refine wp_iload k18_115 rfl rfl ?_
        refine wcvN (st2 := []) k18_117 (cw9 (S := S) h3) (by decide) rfl rfl rfl rfl h3.1.h h3.1.o (by decide) (fun W117 g117 => ?_)
        have f117 := FR.t f107 g117
        exact j120 _ _ _ f117
  have j85 : ∀ (x4_85 : Int32) (W85 : hV), FR sh V W85 → WP S 3 mm_m18 85 [some (.ref 76), some (.ref p1), some (.int p2), some (.ref p3), some (.int x4_85), none] [] (hH sh W85) (wZ sh V) := by
    intro x4_85 W85 f85
    refine wp_iconst 1 k18_85 (by decide) ?_
    exact wp_retZ (b := true) k18_86 rfl ⟨true, _, rfl, rfl, f85⟩
  have j82 : ∀ (x4_82 : Int32) (xs0_82 : Int32) (xs1_82 : Int32) (W82 : hV), FR sh V W82 → WP S 3 mm_m18 82 [some (.ref 76), some (.ref p1), some (.int p2), some (.ref p3), some (.int x4_82), none] [.int xs0_82, .int xs1_82, .ref 76] (hH sh W82) (wZ sh V) := by
    intro x4_82 xs0_82 xs1_82 W82 f82
    refine wcvN (st2 := []) k18_82 (cw23 (S := S) h0) (by decide) rfl rfl rfl rfl (by decide) h0.1.o (by decide) (fun W82 g82 => ?_)
    have f82 := FR.t f82 g82
    exact j85 _ _ f82
  have j49 : ∀ (x4_49 : Int32) (W49 : hV), FR sh V W49 → WP S 3 mm_m18 49 [some (.ref 76), some (.ref p1), some (.int p2), some (.ref p3), some (.int x4_49), none] [] (hH sh W49) (wZ sh V) := by
    intro x4_49 W49 f49
    refine wp_aload_n k18_49 rfl rfl ?_
    refine wcvZ (st2 := []) k18_50 (cw22 (S := S) h0) (by decide) rfl rfl rfl rfl (by decide) h0.1.o (by decide) (fun b50 W50 g50 => ?_)
    have f50 := FR.t f49 g50
    refine wp_if_eq k18_53 (fun c53 => ?_) (fun c53 => ?_)
    · exact j85 _ _ f50
    · refine wp_aload_n k18_56 rfl rfl ?_
      refine wp_iload k18_57 rfl rfl ?_
      refine wp_iload k18_59 rfl rfl ?_
      refine wcsZ (st2 := [_, _]) k18_61 (cw166 (S := S)) (by decide) rfl rfl rfl (by decide) (fun b61 W61 g61 => ?_)
      have f61 := FR.t f50 g61
      refine wp_if_eq k18_64 (fun c64 => ?_) (fun c64 => ?_)
      · refine wp_iconst 0 k18_81 (by decide) ?_
        exact j82 _ _ _ _ f61
      · refine wp_aload_n k18_67 rfl rfl ?_
        refine wq_getR k18_68 h0.1 rfl ?_
        refine wp_aload_n k18_71 rfl rfl ?_
        refine wq_getR k18_72 h1.1 rfl ?_
        refine wcvI (st2 := [_, _]) k18_75 (cw84 (S := S) h0.2.1 h1.2.2.1) (by decide) rfl rfl rfl rfl (by decide) h0.2.1.1.o (by decide) (fun x75 W75 g75 => ?_)
        have f75 := FR.t f61 g75
        refine wp_goto k18_78 ?_
        exact j82 _ _ _ _ f75
  refine ev_of P18 rfl ?_
  refine wp_aload_n k18_0 rfl rfl ?_
  refine wq_getR k18_1 h0.1 rfl ?_
  refine wq_getI k18_4 h0.2.1.1 rfl ?_
  refine wp_sipush 256 k18_7 (by decide) ?_
  refine wp_isub k18_10 ?_
  refine wp_istore (L1 := [_, _, _, _, _, _]) k18_11 rfl rfl ?_
  refine wp_aload_n k18_13 rfl rfl ?_
  refine wq_getR k18_14 h0.1 rfl ?_
  refine wq_getI k18_17 h0.2.1.1 rfl ?_
  refine wp_bipush 40 k18_20 (by decide) ?_
  refine wp_if_icmp_ne k18_22 (fun c22 => ?_) (fun c22 => ?_)
  · refine wp_iload k18_31 rfl rfl ?_
    refine wcsZ (st2 := []) k18_33 (cw164 (S := S)) (by decide) rfl rfl rfl (by decide) (fun b33 W33 g33 => ?_)
    have f33 := FR.t f0 g33
    refine wp_if_eq k18_36 (fun c36 => ?_) (fun c36 => ?_)
    · exact j87 _ _ f33
    · refine wp_iload k18_39 rfl rfl ?_
      refine wp_iconst 1 k18_41 (by decide) ?_
      refine wp_if_icmp_eq k18_42 (fun c42 => ?_) (fun c42 => ?_)
      · exact j49 _ _ f33
      · refine wp_iload_n k18_45 rfl rfl ?_
        refine wp_if_ne k18_46 (fun c46 => ?_) (fun c46 => ?_)
        · exact j87 _ _ f33
        · exact j49 _ _ f33
  · refine wp_aload_n k18_25 rfl rfl ?_
    refine wcvN (st2 := []) k18_26 (cw19 (S := S) h0) (by decide) rfl rfl rfl rfl (by decide) h0.1.o (by decide) (fun W26 g26 => ?_)
    have f26 := FR.t f0 g26
    refine wp_iconst 1 k18_29 (by decide) ?_
    exact wp_retZ (b := true) k18_30 rfl ⟨true, _, rfl, rfl, f26⟩
theorem cw17 {S : ww_S} {sh : List mm_C} {V : hV} (h0 : kFR sh) {p1 : Nat} (h1 : kScene sh p1) {p2 : Int32} {p3 : Nat} (h3 : kForm sh p3) : EVQ S 5 17 [.ref 76, .ref p1, .int p2, .ref p3] (hH sh V) (wN sh V) := by
  have f0 := FR.r sh V
  have j175 : ∀ (b4_175 : Bool) (b5_175 : Bool) (x6_175 : Int32) (W175 : hV), FR sh V W175 → WP S 4 mm_m17 175 [some (.ref 76), some (.ref p1), some (.int p2), some (.ref p3), some (.int (bI b4_175)), some (.int (bI b5_175)), some (.int x6_175)] [] (hH sh W175) (wN sh V) := by
    intro b4_175 b5_175 x6_175 W175 f175
    refine wp_aload_n k17_175 rfl rfl ?_
    refine wp_bipush 7 k17_176 (by decide) ?_
    refine wp_aload_n k17_178 rfl rfl ?_
    refine wcvN (st2 := []) k17_179 (cw24 (S := S) h0 h3) (by decide) rfl rfl rfl rfl (by decide) h0.1.o (by decide) (fun W179 g179 => ?_)
    have f179 := FR.t f175 g179
    exact wp_retN k17_182 rfl ⟨_, rfl, rfl, f179⟩
  have j42 : ∀ (m42 : Nat) (b4_42 : Bool) (b5_42 : Bool) (x6_42 : Int32) (W42 : hV), mea x6_42 < m42 → FR sh V W42 → WP S 4 mm_m17 42 [some (.ref 76), some (.ref p1), some (.int p2), some (.ref p3), some (.int (bI b4_42)), some (.int (bI b5_42)), some (.int x6_42)] [] (hH sh W42) (wN sh V) := by
    intro m42
    induction m42 with
    | zero =>
      intro b4_42 b5_42 x6_42 W42 hm42 f42
      exact absurd hm42 (Nat.not_lt_zero _)
    | succ m42 ih42 =>
      intro b4_42 b5_42 x6_42 W42 hm42 f42
      have j169 : ∀ (b4_169 : Bool) (b5_169 : Bool) (W169 : hV), mea (x6_42 + 1) < m42 → FR sh V W169 → WP S 4 mm_m17 169 [some (.ref 76), some (.ref p1), some (.int p2), some (.ref p3), some (.int (bI b4_169)), some (.int (bI b5_169)), some (.int x6_42)] [] (hH sh W169) (wN sh V) := by
        intro b4_169 b5_169 W169 hd42 f169
        refine wp_iinc (L1 := [_, _, _, _, _, _, _]) 1 k17_169 rfl (by decide) rfl ?_
        refine wp_goto k17_172 ?_
        exact ih42 b4_169 b5_169 _ _ hd42 f169
      have j161 : ∀ (bs0_161 : Bool) (W161 : hV), mea (x6_42 + 1) < m42 → FR sh V W161 → WP S 4 mm_m17 161 [some (.ref 76), some (.ref p1), some (.int p2), some (.ref p3), some (.int (bI b4_42)), some (.int (bI b5_42)), some (.int x6_42)] [.int (bI bs0_161)] (hH sh W161) (wN sh V) := by
        intro bs0_161 W161 hd42 f161
        refine wp_istore (L1 := [_, _, _, _, _, _, _]) k17_161 rfl rfl ?_
        refine wp_goto k17_163 ?_
        exact j169 b4_42 bs0_161 _ hd42 f161
      have j129 : ∀ (bs0_129 : Bool) (W129 : hV), mea (x6_42 + 1) < m42 → FR sh V W129 → WP S 4 mm_m17 129 [some (.ref 76), some (.ref p1), some (.int p2), some (.ref p3), some (.int 1), some (.int (bI b5_42)), some (.int x6_42)] [.int (bI bs0_129)] (hH sh W129) (wN sh V) := by
        intro bs0_129 W129 hd42 f129
        refine wp_istore (L1 := [_, _, _, _, _, _, _]) k17_129 rfl rfl ?_
        refine wp_goto k17_131 ?_
        exact j169 true bs0_129 _ hd42 f129
      have j84 : ∀ (b4_84 : Bool) (bs0_84 : Bool) (W84 : hV), mea (x6_42 + 1) < m42 → FR sh V W84 → WP S 4 mm_m17 84 [some (.ref 76), some (.ref p1), some (.int p2), some (.ref p3), some (.int (bI b4_84)), some (.int (bI b5_42)), some (.int x6_42)] [.int (bI bs0_84)] (hH sh W84) (wN sh V) := by
        intro b4_84 bs0_84 W84 hd42 f84
        refine wp_istore (L1 := [_, _, _, _, _, _, _]) k17_84 rfl rfl ?_
        refine wp_goto k17_86 ?_
        exact j169 b4_84 bs0_84 _ hd42 f84
      refine wp_iload k17_42 rfl rfl ?_
      refine wp_sipush 600 k17_44 (by decide) ?_
      refine wp_if_icmp_gt k17_47 (fun c47 => ?_) (fun c47 => ?_)
      · exact j175 b4_42 b5_42 _ _ f42
      · have hd42 : mea (x6_42 + 1) < m42 := Nat.lt_of_lt_of_le (mea_n c47 (by decide)) (Nat.le_of_lt_succ hm42)
        refine wp_iload k17_50 rfl rfl ?_
        refine wp_if_eq k17_52 (fun c52 => ?_) (fun c52 => ?_)
        · exact j175 b4_42 b5_42 _ _ f42
        · refine wp_iload k17_55 rfl rfl ?_
          refine wp_if_eq k17_57 (fun c57 => ?_) (fun c57 => ?_)
          · refine wp_aload_n k17_89 rfl rfl ?_
            refine wq_getR k17_90 h0.1 rfl ?_
            refine wq_getI k17_93 h0.2.1.1 rfl ?_
            refine wp_sipush 256 k17_96 (by decide) ?_
            refine wp_isub k17_99 ?_
            refine wcsZ (st2 := []) k17_100 (cw165 (S := S)) (by decide) rfl rfl rfl (by decide) (fun b100 W100 g100 => ?_)
            have f100 := FR.t f42 g100
            refine wp_if_eq k17_103 (fun c103 => ?_) (fun c103 => ?_)
            · refine wp_aload_n k17_134 rfl rfl ?_
              refine wq_getI k17_135 h0.1 rfl ?_
              refine wp_if_le k17_138 (fun c138 => ?_) (fun c138 => ?_)
              · refine wp_iconst 0 k17_166 (by decide) ?_
                refine wp_istore (L1 := [_, _, _, _, _, _, _]) k17_167 rfl rfl ?_
                exact j169 b4_42 false _ hd42 f100
              · refine wp_aload_n k17_141 rfl rfl ?_
                refine wp_aload_n k17_142 rfl rfl ?_
                refine wcvN (st2 := []) k17_143 (cw21 (S := S) h0 h3) (by decide) rfl rfl rfl rfl (by decide) h0.1.o (by decide) (fun W143 g143 => ?_)
                have f143 := FR.t f100 g143
                refine wp_aload_n k17_146 rfl rfl ?_
                refine wq_getR k17_147 h0.1 rfl ?_
                refine wcvZ (st2 := []) k17_150 (cw76 (S := S) h0.2.1) (by decide) rfl rfl rfl rfl (by decide) h0.2.1.1.o (by decide) (fun b150 W150 g150 => ?_)
                have f150 := FR.t f143 g150
                refine wp_if_ne k17_153 (fun c153 => ?_) (fun c153 => ?_)
                · refine wp_iconst 0 k17_160 (by decide) ?_
                  exact j161 false _ hd42 f150
                · refine wp_iconst 1 k17_156 (by decide) ?_
                  refine wp_goto k17_157 ?_
                  exact j161 true _ hd42 f150
            · refine wp_aload_n k17_106 rfl rfl ?_
              refine wp_aload_n k17_107 rfl rfl ?_
              refine wcvN (st2 := []) k17_108 (cw20 (S := S) h0 h3) (by decide) rfl rfl rfl rfl (by decide) h0.1.o (by decide) (fun W108 g108 => ?_)
              have f108 := FR.t f100 g108
              refine wp_iconst 1 k17_111 (by decide) ?_
              refine wp_istore (L1 := [_, _, _, _, _, _, _]) k17_112 rfl rfl ?_
              refine wp_aload_n k17_114 rfl rfl ?_
              refine wq_getR k17_115 h0.1 rfl ?_
              refine wcvZ (st2 := []) k17_118 (cw76 (S := S) h0.2.1) (by decide) rfl rfl rfl rfl (by decide) h0.2.1.1.o (by decide) (fun b118 W118 g118 => ?_)
              have f118 := FR.t f108 g118
              refine wp_if_ne k17_121 (fun c121 => ?_) (fun c121 => ?_)
              · refine wp_iconst 0 k17_128 (by decide) ?_
                exact j129 false _ hd42 f118
              · refine wp_iconst 1 k17_124 (by decide) ?_
                refine wp_goto k17_125 ?_
                exact j129 true _ hd42 f118
          · refine wp_aload_n k17_60 rfl rfl ?_
            refine wp_aload_n k17_61 rfl rfl ?_
            refine wp_iload_n k17_62 rfl rfl ?_
            refine wp_aload_n k17_63 rfl rfl ?_
            refine wcvZ (st2 := []) k17_64 (cw18 (S := S) h0 h1 h3) (by decide) rfl rfl rfl rfl (by decide) h0.1.o (by decide) (fun b64 W64 g64 => ?_)
            have f64 := FR.t f42 g64
            refine wp_istore (L1 := [_, _, _, _, _, _, _]) k17_67 rfl rfl ?_
            refine wp_aload_n k17_69 rfl rfl ?_
            refine wq_getR k17_70 h0.1 rfl ?_
            refine wcvZ (st2 := []) k17_73 (cw76 (S := S) h0.2.1) (by decide) rfl rfl rfl rfl (by decide) h0.2.1.1.o (by decide) (fun b73 W73 g73 => ?_)
            have f73 := FR.t f64 g73
            refine wp_if_ne k17_76 (fun c76 => ?_) (fun c76 => ?_)
            · refine wp_iconst 0 k17_83 (by decide) ?_
              exact j84 b64 false _ hd42 f73
            · refine wp_iconst 1 k17_79 (by decide) ?_
              refine wp_goto k17_80 ?_
              exact j84 b64 true _ hd42 f73
  have j37 : ∀ (bs0_37 : Bool) (W37 : hV), FR sh V W37 → WP S 4 mm_m17 37 [some (.ref 76), some (.ref p1), some (.int p2), some (.ref p3), some (.int 1), none, none] [.int (bI bs0_37)] (hH sh W37) (wN sh V) := by
    intro bs0_37 W37 f37
    refine wp_istore (L1 := [_, _, _, _, _, _, _]) k17_37 rfl rfl ?_
    refine wp_iconst 0 k17_39 (by decide) ?_
    refine wp_istore (L1 := [_, _, _, _, _, _, _]) k17_40 rfl rfl ?_
    exact j42 _ true bs0_37 _ _ (Nat.lt_succ_self _) f37
  refine ev_of P17 rfl ?_
  refine wp_aload_n k17_0 rfl rfl ?_
  refine wp_iconst 0 k17_1 (by decide) ?_
  refine wq_putI k17_2 h0.1 rfl rfl rfl (Or.inr (by decide)) rfl (fun W2 g2 => ?_)
  have f2 := FR.t f0 g2
  refine wp_aload_n k17_5 rfl rfl ?_
  refine wp_iconst 0 k17_6 (by decide) ?_
  refine wq_putI k17_7 h0.1 rfl rfl rfl (Or.inl (by decide)) rfl (fun W7 g7 => ?_)
  have f7 := FR.t f2 g7
  refine wp_aload_n k17_10 rfl rfl ?_
  refine wp_iconst 0 k17_11 (by decide) ?_
  refine wq_putI k17_12 h0.1 rfl rfl rfl (Or.inr (by decide)) rfl (fun W12 g12 => ?_)
  have f12 := FR.t f7 g12
  refine wp_aload_n k17_15 rfl rfl ?_
  refine wcvN (st2 := []) k17_16 (cw8 (S := S) h3) (by decide) rfl rfl rfl rfl h3.1.h h3.1.o (by decide) (fun W16 g16 => ?_)
  have f16 := FR.t f12 g16
  refine wp_iconst 1 k17_19 (by decide) ?_
  refine wp_istore (L1 := [_, _, _, _, _, _, _]) k17_20 rfl rfl ?_
  refine wp_aload_n k17_22 rfl rfl ?_
  refine wq_getR k17_23 h0.1 rfl ?_
  refine wcvZ (st2 := []) k17_26 (cw76 (S := S) h0.2.1) (by decide) rfl rfl rfl rfl (by decide) h0.2.1.1.o (by decide) (fun b26 W26 g26 => ?_)
  have f26 := FR.t f16 g26
  refine wp_if_ne k17_29 (fun c29 => ?_) (fun c29 => ?_)
  · refine wp_iconst 0 k17_36 (by decide) ?_
    exact j37 false _ f26
  · refine wp_iconst 1 k17_32 (by decide) ?_
    refine wp_goto k17_33 ?_
    exact j37 true _ f26
theorem cw2 {S : ww_S} {sh : List mm_C} {V : hV} (h0 : kDR sh) {p1 : Nat} (h1 : kScene sh p1) : EVQ S 2 2 [.ref 79, .ref p1] (hH sh V) (wZ sh V) := by
  have f0 := FR.r sh V
  have j38 : ∀ (bs0_38 : Bool) (W38 : hV), FR sh V W38 → WP S 1 mm_m2 38 [some (.ref 79), some (.ref p1)] [.int (bI bs0_38)] (hH sh W38) (wZ sh V) := by
    intro bs0_38 W38 f38
    exact wp_retZ (b := bs0_38) k2_38 rfl ⟨bs0_38, _, rfl, rfl, f38⟩
  have j37 : ∀  (W37 : hV), FR sh V W37 → WP S 1 mm_m2 37 [some (.ref 79), some (.ref p1)] [] (hH sh W37) (wZ sh V) := by
    intro W37 f37
    refine wp_iconst 0 k2_37 (by decide) ?_
    exact j38 false _ f37
  have j33 : ∀  (W33 : hV), FR sh V W33 → WP S 1 mm_m2 33 [some (.ref 79), some (.ref p1)] [] (hH sh W33) (wZ sh V) := by
    intro W33 f33
    refine wp_iconst 1 k2_33 (by decide) ?_
    refine wp_goto k2_34 ?_
    exact j38 true _ f33
  refine ev_of P2 rfl ?_
  refine wp_aload_n k2_0 rfl rfl ?_
  refine wq_getR k2_1 h0.1 rfl ?_
  refine wcvZ (st2 := []) k2_4 (cw76 (S := S) h0.2.1) (by decide) rfl rfl rfl rfl (by decide) h0.2.1.1.o (by decide) (fun b4 W4 g4 => ?_)
  have f4 := FR.t f0 g4
  refine wp_if_ne k2_7 (fun c7 => ?_) (fun c7 => ?_)
  · exact j33  _ f4
  · refine wp_aload_n k2_10 rfl rfl ?_
    refine wq_getR k2_11 h0.1 rfl ?_
    refine wq_getI k2_14 h0.2.1.1 rfl ?_
    refine wp_sipush 267 k2_17 (by decide) ?_
    refine wp_if_icmp_ne k2_20 (fun c20 => ?_) (fun c20 => ?_)
    · exact j37  _ f4
    · refine wp_aload_n k2_23 rfl rfl ?_
      refine wq_getR k2_24 h1.1 rfl ?_
      refine wq_getI k2_27 h1.2.2.1.1 rfl ?_
      refine wp_if_le k2_30 (fun c30 => ?_) (fun c30 => ?_)
      · exact j37  _ f4
      · exact j33  _ f4
theorem cw3 {S : ww_S} {sh : List mm_C} {V : hV} (h0 : kDR sh) {p1 : Nat} (h1 : kScene sh p1) (hC : CN sh V) : EVQ S 8 3 [.ref 79, .ref p1] (hH sh V) (wN sh V) := by
  have f0 := FR.r sh V
  have j64 : ∀ (x2_64 : Int32) (W64 : hV), FR sh V W64 → WP S 7 mm_m3 64 [some (.ref 79), some (.ref p1), some (.int x2_64)] [] (hH sh W64) (wN sh V) := by
    intro x2_64 W64 f64
    refine wp_aload_n k3_64 rfl rfl ?_
    refine wp_iconst 1 k3_65 (by decide) ?_
    refine wp_aload_n k3_66 rfl rfl ?_
    refine wq_getR k3_67 h1.1 rfl ?_
    refine wq_getI k3_70 h1.2.1.1 rfl ?_
    refine wp_ishl k3_73 ?_
    refine wcsI (st2 := [_]) k3_74 (cw161 (S := S)) (by decide) rfl rfl rfl (by decide) (fun x74 W74 g74 => ?_)
    have f74 := FR.t f64 g74
    refine wq_putI k3_77 h1.1 rfl rfl rfl (Or.inl (h1.1.n rfl)) rfl (fun W77 g77 => ?_)
    have f77 := FR.t f74 g77
    exact wp_retN k3_80 rfl ⟨_, rfl, rfl, f77⟩
  have j22 : ∀ (m22 : Nat) (x2_22 : Int32) (W22 : hV), mea x2_22 < m22 → FR sh V W22 → WP S 7 mm_m3 22 [some (.ref 79), some (.ref p1), some (.int x2_22)] [] (hH sh W22) (wN sh V) := by
    intro m22
    induction m22 with
    | zero =>
      intro x2_22 W22 hm22 f22
      exact absurd hm22 (Nat.not_lt_zero _)
    | succ m22 ih22 =>
      intro x2_22 W22 hm22 f22
      refine wp_iload_n k3_22 rfl rfl ?_
      refine wp_iconst 5 k3_23 (by decide) ?_
      refine wp_if_icmp_gt k3_24 (fun c24 => ?_) (fun c24 => ?_)
      · exact j64 _ _ f22
      · have hd22 : mea (x2_22 + 1) < m22 := Nat.lt_of_lt_of_le (mea_n c24 (by decide)) (Nat.le_of_lt_succ hm22)
        refine wp_aload_n k3_27 rfl rfl ?_
        refine wq_getR k3_28 h0.1 rfl ?_
        refine wcvZ (st2 := []) k3_31 (cw78 (S := S) h0.2.1) (by decide) rfl rfl rfl rfl (by decide) h0.2.1.1.o (by decide) (fun b31 W31 g31 => ?_)
        have f31 := FR.t f22 g31
        refine wp_if_eq k3_34 (fun c34 => ?_) (fun c34 => ?_)
        · exact j64 _ _ f31
        · refine wp_aload_n k3_37 rfl rfl ?_
          refine wq_getR k3_38 h0.1 rfl ?_
          refine wcvZ (st2 := []) k3_41 (cw76 (S := S) h0.2.1) (by decide) rfl rfl rfl rfl (by decide) h0.2.1.1.o (by decide) (fun b41 W41 g41 => ?_)
          have f41 := FR.t f31 g41
          refine wp_if_ne k3_44 (fun c44 => ?_) (fun c44 => ?_)
          · exact j64 _ _ f41
          · refine wp_aload_n k3_47 rfl rfl ?_
            refine wq_getR k3_48 h0.1 rfl ?_
            refine wp_aload_n k3_51 rfl rfl ?_
            refine wq_getR k3_52 h1.1 rfl ?_
            refine wcvN (st2 := []) k3_55 (cw82 (S := S) h0.2.1 h1.2.1 (f41.2.2 hC)) (by decide) rfl rfl rfl rfl (by decide) h0.2.1.1.o (by decide) (fun W55 g55 => ?_)
            have f55 := FR.t f41 g55
            refine wp_iinc (L1 := [_, _, _]) 1 k3_58 rfl (by decide) rfl ?_
            refine wp_goto k3_61 ?_
            exact ih22 _ _ hd22 f55
  refine ev_of P3 rfl ?_
  refine wp_aload_n k3_0 rfl rfl ?_
  refine wq_getR k3_1 h0.1 rfl ?_
  refine wp_ldcR k3_4 ?_
  refine wcvN (st2 := []) k3_6 (cw79 (S := S) h0.2.1 XS22) (by decide) rfl rfl rfl rfl (by decide) h0.2.1.1.o (by decide) (fun W6 g6 => ?_)
  have f6 := FR.t f0 g6
  refine wp_aload_n k3_9 rfl rfl ?_
  refine wq_getR k3_10 h0.1 rfl ?_
  refine wp_aload_n k3_13 rfl rfl ?_
  refine wq_getR k3_14 h1.1 rfl ?_
  refine wcvN (st2 := []) k3_17 (cw82 (S := S) h0.2.1 h1.2.1 (f6.2.2 hC)) (by decide) rfl rfl rfl rfl (by decide) h0.2.1.1.o (by decide) (fun W17 g17 => ?_)
  have f17 := FR.t f6 g17
  refine wp_iconst 0 k3_20 (by decide) ?_
  refine wp_istore_n (L1 := [_, _, _]) k3_21 rfl rfl ?_
  exact j22 _ _ _ (Nat.lt_succ_self _) f17
theorem cw4 {S : ww_S} {sh : List mm_C} {V : hV} (h0 : kDR sh) {p1 : Nat} (h1 : kScene sh p1) : EVQ S 6 4 [.ref 79, .ref p1] (hH sh V) (wN sh V) := by
  have f0 := FR.r sh V
  have j116 : ∀ (x2_116 : Int32) (W116 : hV), FR sh V W116 → WP S 5 mm_m4 116 [some (.ref 79), some (.ref p1), some (.int x2_116)] [] (hH sh W116) (wN sh V) := by
    intro x2_116 W116 f116
    exact wp_retN k4_116 rfl ⟨_, rfl, rfl, f116⟩
  refine ev_of P4 rfl ?_
  refine wp_aload_n k4_0 rfl rfl ?_
  refine wq_getR k4_1 h0.1 rfl ?_
  refine wq_getI k4_4 h0.2.1.1 rfl ?_
  refine wp_istore_n (L1 := [_, _, _]) k4_7 rfl rfl ?_
  refine wp_aload_n k4_8 rfl rfl ?_
  refine wq_getI k4_9 h1.1 rfl ?_
  refine wp_bipush 6 k4_12 (by decide) ?_
  refine wp_if_icmp_lt k4_14 (fun c14 => ?_) (fun c14 => ?_)
  · refine wp_aload_n k4_33 rfl rfl ?_
    refine wq_getR k4_34 h0.1 rfl ?_
    refine wcvN (st2 := []) k4_37 (cw74 (S := S) h0.2.1) (by decide) rfl rfl rfl rfl (by decide) h0.2.1.1.o (by decide) (fun W37 g37 => ?_)
    have f37 := FR.t f0 g37
    refine wp_aload_n k4_40 rfl rfl ?_
    refine wq_getR k4_41 h0.1 rfl ?_
    refine wp_aload_n k4_44 rfl rfl ?_
    refine wp_iconst 1 k4_45 (by decide) ?_
    refine wp_aload_n k4_46 rfl rfl ?_
    refine wq_getR k4_47 h0.1 rfl ?_
    refine wcvN (st2 := []) k4_50 (cw17 (S := S) h0.2.2.1 h1 h0.2.2.2.1) (by decide) rfl rfl rfl rfl (by decide) h0.2.2.1.1.o (by decide) (fun W50 g50 => ?_)
    have f50 := FR.t f37 g50
    refine wp_aload_n k4_53 rfl rfl ?_
    refine wq_getR k4_54 h0.1 rfl ?_
    refine wcvZ (st2 := []) k4_57 (cw76 (S := S) h0.2.1) (by decide) rfl rfl rfl rfl (by decide) h0.2.1.1.o (by decide) (fun b57 W57 g57 => ?_)
    have f57 := FR.t f50 g57
    refine wp_if_eq k4_60 (fun c60 => ?_) (fun c60 => ?_)
    · refine wp_aload_n k4_64 rfl rfl ?_
      refine wq_getR k4_65 h0.1 rfl ?_
      refine wp_aload_n k4_68 rfl rfl ?_
      refine wq_getI k4_69 h1.1 rfl ?_
      refine wq_putI k4_72 h0.2.2.2.2.1 rfl rfl rfl (Or.inr (by decide)) rfl (fun W72 g72 => ?_)
      have f72 := FR.t f57 g72
      refine wp_aload_n k4_75 rfl rfl ?_
      refine wp_aload_n k4_76 rfl rfl ?_
      refine wq_getR k4_77 h0.1 rfl ?_
      refine wp_aload_n k4_80 rfl rfl ?_
      refine wq_getR k4_81 h0.1 rfl ?_
      refine wcvI (st2 := [_]) k4_84 (cw11 (S := S) h0.2.2.2.1 h0.2.2.2.2) (by decide) rfl rfl rfl rfl (by decide) h0.2.2.2.1.1.o (by decide) (fun x84 W84 g84 => ?_)
      have f84 := FR.t f72 g84
      refine wq_putI k4_87 h1.1 rfl rfl rfl (Or.inl (h1.1.n rfl)) rfl (fun W87 g87 => ?_)
      have f87 := FR.t f84 g87
      refine wp_aload_n k4_90 rfl rfl ?_
      refine wp_dup k4_91 rfl ?_
      refine wq_getI k4_92 h1.1 rfl ?_
      refine wp_iconst 1 k4_95 (by decide) ?_
      refine wp_iadd k4_96 ?_
      refine wq_putI k4_97 h1.1 rfl rfl rfl (Or.inr (by decide)) rfl (fun W97 g97 => ?_)
      have f97 := FR.t f87 g97
      refine wp_aload_n k4_100 rfl rfl ?_
      refine wq_getI k4_101 h1.1 rfl ?_
      refine wp_if_ne k4_104 (fun c104 => ?_) (fun c104 => ?_)
      · exact j116 _ _ f97
      · refine wp_aload_n k4_107 rfl rfl ?_
        refine wq_getR k4_108 h0.1 rfl ?_
        refine wp_iconst 4 k4_111 (by decide) ?_
        refine wp_iload_n k4_112 rfl rfl ?_
        refine wcvN (st2 := []) k4_113 (cw75 (S := S) h0.2.1) (by decide) rfl rfl rfl rfl (by decide) h0.2.1.1.o (by decide) (fun W113 g113 => ?_)
        have f113 := FR.t f97 g113
        exact j116 _ _ f113
    · exact wp_retN k4_63 rfl ⟨_, rfl, rfl, f57⟩
  · refine wp_aload_n k4_17 rfl rfl ?_
    refine wq_getR k4_18 h0.1 rfl ?_
    refine wp_iconst 3 k4_21 (by decide) ?_
    refine wp_aload_n k4_22 rfl rfl ?_
    refine wq_getR k4_23 h0.1 rfl ?_
    refine wq_getI k4_26 h0.2.1.1 rfl ?_
    refine wcvN (st2 := []) k4_29 (cw75 (S := S) h0.2.1) (by decide) rfl rfl rfl rfl (by decide) h0.2.1.1.o (by decide) (fun W29 g29 => ?_)
    have f29 := FR.t f0 g29
    exact wp_retN k4_32 rfl ⟨_, rfl, rfl, f29⟩
theorem cw5 {S : ww_S} {sh : List mm_C} {V : hV} (h0 : kDR sh) {p1 : Nat} (h1 : kScene sh p1) (hC : CN sh V) : EVQ S 4 5 [.ref 79, .ref p1] (hH sh V) (wN sh V) := by
  have f0 := FR.r sh V
  have j81 : ∀ (x2_81 : Int32) (W81 : hV), FR sh V W81 → WP S 3 mm_m5 81 [some (.ref 79), some (.ref p1), some (.int x2_81)] [] (hH sh W81) (wN sh V) := by
    intro x2_81 W81 f81
    exact wp_retN k5_81 rfl ⟨_, rfl, rfl, f81⟩
  refine ev_of P5 rfl ?_
  refine wp_aload_n k5_0 rfl rfl ?_
  refine wq_getR k5_1 h1.1 rfl ?_
  refine wq_getI k5_4 h1.2.2.1.1 rfl ?_
  refine wp_istore_n (L1 := [_, _, _]) k5_7 rfl rfl ?_
  refine wp_aload_n k5_8 rfl rfl ?_
  refine wq_getR k5_9 h1.1 rfl ?_
  refine wcvZ (st2 := []) k5_12 (cw49 (S := S) h1.2.2.1) (by decide) rfl rfl rfl rfl h1.2.2.1.1.h h1.2.2.1.1.o (by decide) (fun b12 W12 g12 => ?_)
  have f12 := FR.t f0 g12
  refine wp_if_eq k5_15 (fun c15 => ?_) (fun c15 => ?_)
  · refine wp_aload_n k5_34 rfl rfl ?_
    refine wq_getR k5_35 h0.1 rfl ?_
    refine wcvN (st2 := []) k5_38 (cw74 (S := S) h0.2.1) (by decide) rfl rfl rfl rfl (by decide) h0.2.1.1.o (by decide) (fun W38 g38 => ?_)
    have f38 := FR.t f12 g38
    refine wp_aload_n k5_41 rfl rfl ?_
    refine wq_getR k5_42 h0.1 rfl ?_
    refine wp_aload_n k5_45 rfl rfl ?_
    refine wq_getR k5_46 h1.1 rfl ?_
    refine wcvN (st2 := []) k5_49 (cw82 (S := S) h0.2.1 h1.2.2.1 (f38.2.2 hC)) (by decide) rfl rfl rfl rfl (by decide) h0.2.1.1.o (by decide) (fun W49 g49 => ?_)
    have f49 := FR.t f38 g49
    refine wp_aload_n k5_52 rfl rfl ?_
    refine wq_getR k5_53 h0.1 rfl ?_
    refine wcvZ (st2 := []) k5_56 (cw76 (S := S) h0.2.1) (by decide) rfl rfl rfl rfl (by decide) h0.2.1.1.o (by decide) (fun b56 W56 g56 => ?_)
    have f56 := FR.t f49 g56
    refine wp_if_ne k5_59 (fun c59 => ?_) (fun c59 => ?_)
    · exact j81 _ _ f56
    · refine wp_aload_n k5_62 rfl rfl ?_
      refine wq_getR k5_63 h1.1 rfl ?_
      refine wp_iload_n k5_66 rfl rfl ?_
      refine wp_aload_n k5_67 rfl rfl ?_
      refine wq_getR k5_68 h0.1 rfl ?_
      refine wp_aload_n k5_71 rfl rfl ?_
      refine wq_getR k5_72 h1.1 rfl ?_
      refine wcvI (st2 := [_, _]) k5_75 (cw85 (S := S) h0.2.1 h1.2.1 (f56.2.2 hC)) (by decide) rfl rfl rfl rfl (by decide) h0.2.1.1.o (by decide) (fun x75 W75 g75 => ?_)
      have f75 := FR.t f56 g75
      refine wcsN (st2 := []) k5_78 (cw157 (S := S) h1.2.2.2 (by decide)) (by decide) rfl rfl rfl (by decide) (fun W78 g78 => ?_)
      have f78 := FR.t f75 g78
      exact j81 _ _ f78
  · refine wp_aload_n k5_18 rfl rfl ?_
    refine wq_getR k5_19 h0.1 rfl ?_
    refine wp_iconst 3 k5_22 (by decide) ?_
    refine wp_aload_n k5_23 rfl rfl ?_
    refine wq_getR k5_24 h0.1 rfl ?_
    refine wq_getI k5_27 h0.2.1.1 rfl ?_
    refine wcvN (st2 := []) k5_30 (cw75 (S := S) h0.2.1) (by decide) rfl rfl rfl rfl (by decide) h0.2.1.1.o (by decide) (fun W30 g30 => ?_)
    have f30 := FR.t f12 g30
    exact wp_retN k5_33 rfl ⟨_, rfl, rfl, f30⟩
theorem cw6 {S : ww_S} {sh : List mm_C} {V : hV} (h0 : kDR sh) {p1 : Nat} (h1 : kScene sh p1) (hC : CN sh V) : EVQ S 4 6 [.ref 79, .ref p1] (hH sh V) (wN sh V) := by
  have f0 := FR.r sh V
  have j63 : ∀ (x2_63 : Int32) (W63 : hV), FR sh V W63 → WP S 3 mm_m6 63 [some (.ref 79), some (.ref p1), some (.int x2_63)] [] (hH sh W63) (wN sh V) := by
    intro x2_63 W63 f63
    refine wp_aload_n k6_63 rfl rfl ?_
    refine wq_getR k6_64 h0.1 rfl ?_
    refine wcvN (st2 := []) k6_67 (cw81 (S := S) h0.2.1) (by decide) rfl rfl rfl rfl (by decide) h0.2.1.1.o (by decide) (fun W67 g67 => ?_)
    have f67 := FR.t f63 g67
    exact wp_retN k6_70 rfl ⟨_, rfl, rfl, f67⟩
  refine ev_of P6 rfl ?_
  refine wp_aload_n k6_0 rfl rfl ?_
  refine wq_getR k6_1 h0.1 rfl ?_
  refine wq_getI k6_4 h0.2.1.1 rfl ?_
  refine wp_istore_n (L1 := [_, _, _]) k6_7 rfl rfl ?_
  refine wp_aload_n k6_8 rfl rfl ?_
  refine wq_getR k6_9 h0.1 rfl ?_
  refine wcvN (st2 := []) k6_12 (cw74 (S := S) h0.2.1) (by decide) rfl rfl rfl rfl (by decide) h0.2.1.1.o (by decide) (fun W12 g12 => ?_)
  have f12 := FR.t f0 g12
  refine wp_aload_n k6_15 rfl rfl ?_
  refine wp_aload_n k6_16 rfl rfl ?_
  refine wq_getR k6_17 h0.1 rfl ?_
  refine wp_aload_n k6_20 rfl rfl ?_
  refine wq_getR k6_21 h1.1 rfl ?_
  refine wcvI (st2 := [_]) k6_24 (cw85 (S := S) h0.2.1 h1.2.1 (f12.2.2 hC)) (by decide) rfl rfl rfl rfl (by decide) h0.2.1.1.o (by decide) (fun x24 W24 g24 => ?_)
  have f24 := FR.t f12 g24
  refine wq_putI k6_27 h1.1 rfl rfl rfl (Or.inr (by decide)) rfl (fun W27 g27 => ?_)
  have f27 := FR.t f24 g27
  refine wp_aload_n k6_30 rfl rfl ?_
  refine wq_getR k6_31 h0.1 rfl ?_
  refine wcvZ (st2 := []) k6_34 (cw76 (S := S) h0.2.1) (by decide) rfl rfl rfl rfl (by decide) h0.2.1.1.o (by decide) (fun b34 W34 g34 => ?_)
  have f34 := FR.t f27 g34
  refine wp_if_ne k6_37 (fun c37 => ?_) (fun c37 => ?_)
  · exact j63 _ _ f34
  · refine wp_aload_n k6_40 rfl rfl ?_
    refine wq_getI k6_41 h1.1 rfl ?_
    refine wp_aload_n k6_44 rfl rfl ?_
    refine wq_getI k6_45 h1.1 rfl ?_
    refine wcsZ (st2 := []) k6_48 (cw159 (S := S)) (by decide) rfl rfl rfl (by decide) (fun b48 W48 g48 => ?_)
    have f48 := FR.t f34 g48
    refine wp_if_ne k6_51 (fun c51 => ?_) (fun c51 => ?_)
    · exact j63 _ _ f48
    · refine wp_aload_n k6_54 rfl rfl ?_
      refine wq_getR k6_55 h0.1 rfl ?_
      refine wp_iconst 4 k6_58 (by decide) ?_
      refine wp_iload_n k6_59 rfl rfl ?_
      refine wcvN (st2 := []) k6_60 (cw75 (S := S) h0.2.1) (by decide) rfl rfl rfl rfl (by decide) h0.2.1.1.o (by decide) (fun W60 g60 => ?_)
      have f60 := FR.t f48 g60
      exact j63 _ _ f60
theorem or_at : ∀ k : Fin 20, ([some 82, some 87, some 92, some 97, some 102, some 107, some 112, some 117, some 122, some 127, some 132, some 137, some 142, some 147, some 152, some 157, some 162, some 167, some 172, some 177] : List (Option Nat))[k.val]? = some (some (82 + 5 * k.val)) := by decide
theorem cw56 {S : ww_S} {sh : List mm_C} {V : hV} (h0 : kOR sh) {x : Int32} : EVQ S 1 56 [.ref 80, .int x] (hH sh V) (wO sh V) := by
  have E : ∀ {L}, WP S 0 mm_m56 30 L [] (hH sh V) (wO sh V) := fun {L} => wp_aconst_null k56_30 (wp_retU k56_31 rfl ⟨_, FR.r sh V, rfl, Or.inl rfl⟩)
  refine ev_of P56 rfl ?_
  refine wp_iload_n k56_0 rfl rfl ?_
  refine wp_if_lt k56_1 (fun c1 => E) (fun c1 => ?_)
  refine wp_iload_n k56_4 rfl rfl ?_
  refine wp_aload_n k56_5 rfl rfl ?_
  refine wq_getI k56_6 h0.1 rfl ?_
  refine wp_if_icmp_ge k56_9 (fun c9 => E) (fun c9 => ?_)
  refine wp_iload_n k56_12 rfl rfl ?_
  refine wp_aload_n k56_13 rfl rfl ?_
  refine wq_getR k56_14 h0.1 rfl ?_
  refine wp_alenR k56_17 rfl (by decide) h0.2.2.2.1 ?_
  refine wp_if_icmp_ge k56_18 (fun c18 => E) (fun c18 => ?_)
  obtain ⟨k, hk, he⟩ := nat_of c1 (n := 20) c18 (by decide)
  subst he
  refine wp_aload_n k56_21 rfl rfl ?_
  refine wq_getR k56_22 h0.1 rfl ?_
  refine wp_iload_n k56_25 rfl rfl ?_
  refine wp_aaload k56_26 (by decide) rfl h0.2.2.2.1 (in_of c1 c18 (by decide)) (by rw [i_un (by omega)]; exact or_at ⟨k, hk⟩) ?_
  refine wp_goto k56_27 ?_
  exact wp_retS k56_31 rfl ⟨_, FR.r sh V, rfl, Or.inr ⟨_, rfl, h0.2.2.2.2 k hk⟩⟩
theorem cw58 {S : ww_S} {sh : List mm_C} {V : hV} (h0 : kOR sh) : EVQ S 7 58 [.ref 80] (hH sh V) (wO sh V) := by
  have f0 := FR.r sh V
  have j27 : ∀ (x1_27 : Int32) (W27 : hV), FR sh V W27 → WP S 6 mm_m58 27 [some (.ref 80), some (.int x1_27), none] [] (hH sh W27) (wO sh V) := by
    intro x1_27 W27 f27
    refine wp_iload_n k58_27 rfl rfl ?_
    refine wp_iconst 4 k58_28 (by decide) ?_
    refine wp_if_icmp_le k58_29 (fun c29 => ?_) (fun c29 => ?_)
    · refine wp_aload_n k58_49 rfl rfl ?_
      refine wq_getI k58_50 h0.1 rfl ?_
      refine wp_bipush 20 k58_53 (by decide) ?_
      refine wp_if_icmp_lt k58_55 (fun c55 => ?_) (fun c55 => ?_)
      · refine wp_aload_n k58_75 rfl rfl ?_
        refine wq_getR k58_76 h0.1 rfl ?_
        refine wcvN (st2 := []) k58_79 (cw74 (S := S) h0.2.1) (by decide) rfl rfl rfl rfl (by decide) h0.2.1.1.o (by decide) (fun W79 g79 => ?_)
        have f79 := FR.t f27 g79
        refine wp_aload_n k58_82 rfl rfl ?_
        refine wp_dup k58_83 rfl ?_
        refine wq_getI k58_84 h0.1 rfl ?_
        refine wp_iconst 1 k58_87 (by decide) ?_
        refine wp_iadd k58_88 ?_
        refine wq_putI k58_89 h0.1 rfl rfl rfl (Or.inr (by decide)) rfl (fun W89 g89 => ?_)
        have f89 := FR.t f79 g89
        refine wp_aload_n k58_92 rfl rfl ?_
        refine wp_aload_n k58_93 rfl rfl ?_
        refine wq_getI k58_94 h0.1 rfl ?_
        refine wp_iconst 1 k58_97 (by decide) ?_
        refine wp_isub k58_98 ?_
        refine wcvO (st2 := []) k58_99 (cw56 (S := S) h0) (by decide) rfl rfl rfl rfl (by decide) h0.1.o (by decide) (fun W99 g99 => ?_) (fun a99 W99 ha99 g99 => ?_)
        · have f99 := FR.t f89 g99
          refine wp_astore_n (L1 := [_, _, _]) k58_102 rfl rfl ?_
          refine wp_aload_n k58_103 rfl rfl ?_
          refine wp_ifnull_n k58_104 ?_
          refine wp_aload_n k58_112 rfl rfl ?_
          exact wp_retU k58_113 rfl ⟨_, f99, rfl, Or.inl rfl⟩
        · have f99 := FR.t f89 g99
          refine wp_astore_n (L1 := [_, _, _]) k58_102 rfl rfl ?_
          refine wp_aload_n k58_103 rfl rfl ?_
          refine wp_ifnull_r k58_104 ha99.1.h ?_
          refine wp_aload_n k58_107 rfl rfl ?_
          refine wp_iload_n k58_108 rfl rfl ?_
          refine wq_putI k58_109 ha99.1 rfl rfl rfl (Or.inr (by decide)) rfl (fun W109 g109 => ?_)
          have f109 := FR.t f99 g109
          refine wp_aload_n k58_112 rfl rfl ?_
          exact wp_retS k58_113 rfl ⟨_, f109, rfl, Or.inr ⟨_, rfl, ha99⟩⟩
      · refine wp_aload_n k58_58 rfl rfl ?_
        refine wq_getR k58_59 h0.1 rfl ?_
        refine wp_iconst 3 k58_62 (by decide) ?_
        refine wp_aload_n k58_63 rfl rfl ?_
        refine wq_getR k58_64 h0.1 rfl ?_
        refine wq_getI k58_67 h0.2.1.1 rfl ?_
        refine wcvN (st2 := []) k58_70 (cw75 (S := S) h0.2.1) (by decide) rfl rfl rfl rfl (by decide) h0.2.1.1.o (by decide) (fun W70 g70 => ?_)
        have f70 := FR.t f27 g70
        refine wp_aconst_null k58_73 ?_
        exact wp_retU k58_74 rfl ⟨_, f70, rfl, Or.inl rfl⟩
    · refine wp_aload_n k58_32 rfl rfl ?_
      refine wq_getR k58_33 h0.1 rfl ?_
      refine wp_iconst 1 k58_36 (by decide) ?_
      refine wp_aload_n k58_37 rfl rfl ?_
      refine wq_getR k58_38 h0.1 rfl ?_
      refine wq_getI k58_41 h0.2.1.1 rfl ?_
      refine wcvN (st2 := []) k58_44 (cw75 (S := S) h0.2.1) (by decide) rfl rfl rfl rfl (by decide) h0.2.1.1.o (by decide) (fun W44 g44 => ?_)
      have f44 := FR.t f27 g44
      refine wp_aconst_null k58_47 ?_
      exact wp_retU k58_48 rfl ⟨_, f44, rfl, Or.inl rfl⟩
  have j2 : ∀ (m2 : Nat) (x1_2 : Int32) (W2 : hV), mea x1_2 < m2 → FR sh V W2 → WP S 6 mm_m58 2 [some (.ref 80), some (.int x1_2), none] [] (hH sh W2) (wO sh V) := by
    intro m2
    induction m2 with
    | zero =>
      intro x1_2 W2 hm2 f2
      exact absurd hm2 (Nat.not_lt_zero _)
    | succ m2 ih2 =>
      intro x1_2 W2 hm2 f2
      refine wp_iload_n k58_2 rfl rfl ?_
      refine wp_iconst 4 k58_3 (by decide) ?_
      refine wp_if_icmp_gt k58_4 (fun c4 => ?_) (fun c4 => ?_)
      · exact j27 _ _ f2
      · have hd2 : mea (x1_2 + 1) < m2 := Nat.lt_of_lt_of_le (mea_n c4 (by decide)) (Nat.le_of_lt_succ hm2)
        refine wp_aload_n k58_7 rfl rfl ?_
        refine wq_getR k58_8 h0.1 rfl ?_
        refine wp_iload_n k58_11 rfl rfl ?_
        refine wcsS (st2 := [_]) k58_12 (cw168 (S := S)) (by decide) rfl rfl rfl (by decide) (fun k12 n12 N12 hx12 => ?_)
        refine wcvZ (st2 := []) k58_15 (cw77 (S := S) h0.2.1 hx12) (by decide) rfl rfl rfl rfl (by decide) h0.2.1.1.o (by decide) (fun b15 W15 g15 => ?_)
        have f15 := FR.t f2 g15
        refine wp_if_ne k58_18 (fun c18 => ?_) (fun c18 => ?_)
        · exact j27 _ _ f15
        · refine wp_iinc (L1 := [_, _, _]) 1 k58_21 rfl (by decide) rfl ?_
          refine wp_goto k58_24 ?_
          exact ih2 _ _ hd2 f15
  refine ev_of P58 rfl ?_
  refine wp_iconst 0 k58_0 (by decide) ?_
  refine wp_istore_n (L1 := [_, _, _]) k58_1 rfl rfl ?_
  exact j2 _ _ _ (Nat.lt_succ_self _) f0
theorem cw60 {S : ww_S} {sh : List mm_C} {V : hV} (h0 : kOR sh) {p1 : Nat} (h1 : kScene sh p1) {p2 : Nat} (h2 : kOrder sh p2) (hC : CN sh V) : EVQ S 4 60 [.ref 80, .ref p1, .ref p2] (hH sh V) (wN sh V) := by
  have f0 := FR.r sh V
  refine ev_of P60 rfl ?_
  refine wp_aload_n k60_0 rfl rfl ?_
  refine wq_getR k60_1 h0.1 rfl ?_
  refine wcvZ (st2 := []) k60_4 (cw78 (S := S) h0.2.1) (by decide) rfl rfl rfl rfl (by decide) h0.2.1.1.o (by decide) (fun b4 W4 g4 => ?_)
  have f4 := FR.t f0 g4
  refine wp_if_ne k60_7 (fun c7 => ?_) (fun c7 => ?_)
  · refine wp_aload_n k60_26 rfl rfl ?_
    refine wp_aload_n k60_27 rfl rfl ?_
    refine wq_getR k60_28 h0.1 rfl ?_
    refine wp_aload_n k60_31 rfl rfl ?_
    refine wq_getR k60_32 h1.1 rfl ?_
    refine wcvI (st2 := [_]) k60_35 (cw85 (S := S) h0.2.1 h1.2.2.1 (f4.2.2 hC)) (by decide) rfl rfl rfl rfl (by decide) h0.2.1.1.o (by decide) (fun x35 W35 g35 => ?_)
    have f35 := FR.t f4 g35
    refine wq_putI k60_38 h2.1 rfl rfl rfl (Or.inr (by decide)) rfl (fun W38 g38 => ?_)
    have f38 := FR.t f35 g38
    refine wp_aload_n k60_41 rfl rfl ?_
    refine wq_getR k60_42 h0.1 rfl ?_
    refine wp_sipush 265 k60_45 (by decide) ?_
    refine wcvZ (st2 := []) k60_48 (cw80 (S := S) h0.2.1) (by decide) rfl rfl rfl rfl (by decide) h0.2.1.1.o (by decide) (fun b48 W48 g48 => ?_)
    have f48 := FR.t f38 g48
    refine wp_pop k60_51 rfl ?_
    exact wp_retN k60_52 rfl ⟨_, rfl, rfl, f48⟩
  · refine wp_aload_n k60_10 rfl rfl ?_
    refine wq_getR k60_11 h0.1 rfl ?_
    refine wp_iconst 1 k60_14 (by decide) ?_
    refine wp_aload_n k60_15 rfl rfl ?_
    refine wq_getR k60_16 h0.1 rfl ?_
    refine wq_getI k60_19 h0.2.1.1 rfl ?_
    refine wcvN (st2 := []) k60_22 (cw75 (S := S) h0.2.1) (by decide) rfl rfl rfl rfl (by decide) h0.2.1.1.o (by decide) (fun W22 g22 => ?_)
    have f22 := FR.t f4 g22
    exact wp_retN k60_25 rfl ⟨_, rfl, rfl, f22⟩
theorem cw59 {S : ww_S} {sh : List mm_C} {V : hV} (h0 : kOR sh) {p1 : Nat} (h1 : kScene sh p1) {p2 : Nat} (h2 : kOrder sh p2) (hC : CN sh V) : EVQ S 6 59 [.ref 80, .ref p1, .ref p2] (hH sh V) (wN sh V) := by
  have f0 := FR.r sh V
  have j122 : ∀  (W122 : hV), FR sh V W122 → WP S 5 mm_m59 122 [some (.ref 80), some (.ref p1), some (.ref p2)] [] (hH sh W122) (wN sh V) := by
    intro W122 f122
    exact wp_retN k59_122 rfl ⟨_, rfl, rfl, f122⟩
  have j91 : ∀  (W91 : hV), FR sh V W91 → WP S 5 mm_m59 91 [some (.ref 80), some (.ref p1), some (.ref p2)] [] (hH sh W91) (wN sh V) := by
    intro W91 f91
    refine wp_aload_n k59_91 rfl rfl ?_
    refine wp_aload_n k59_92 rfl rfl ?_
    refine wq_getR k59_93 h0.1 rfl ?_
    refine wp_aload_n k59_96 rfl rfl ?_
    refine wq_getR k59_97 h1.1 rfl ?_
    refine wcvI (st2 := [_]) k59_100 (cw84 (S := S) h0.2.1 h1.2.1) (by decide) rfl rfl rfl rfl (by decide) h0.2.1.1.o (by decide) (fun x100 W100 g100 => ?_)
    have f100 := FR.t f91 g100
    refine wq_putI k59_103 h2.1 rfl rfl rfl (Or.inl (h2.1.n rfl)) rfl (fun W103 g103 => ?_)
    have f103 := FR.t f100 g103
    refine wp_goto k59_106 ?_
    exact j122  _ f103
  have j64 : ∀  (W64 : hV), FR sh V W64 → WP S 5 mm_m59 64 [some (.ref 80), some (.ref p1), some (.ref p2)] [] (hH sh W64) (wN sh V) := by
    intro W64 f64
    refine wp_aload_n k59_64 rfl rfl ?_
    refine wq_getR k59_65 h0.1 rfl ?_
    refine wcvZ (st2 := []) k59_68 (cw76 (S := S) h0.2.1) (by decide) rfl rfl rfl rfl (by decide) h0.2.1.1.o (by decide) (fun b68 W68 g68 => ?_)
    have f68 := FR.t f64 g68
    refine wp_if_eq k59_71 (fun c71 => ?_) (fun c71 => ?_)
    · refine wp_aload_n k59_75 rfl rfl ?_
      refine wq_getI k59_76 h2.1 rfl ?_
      refine wp_iconst 3 k59_79 (by decide) ?_
      refine wp_if_icmp_eq k59_80 (fun c80 => ?_) (fun c80 => ?_)
      · exact j91  _ f68
      · refine wp_aload_n k59_83 rfl rfl ?_
        refine wq_getI k59_84 h2.1 rfl ?_
        refine wp_iconst 4 k59_87 (by decide) ?_
        refine wp_if_icmp_ne k59_88 (fun c88 => ?_) (fun c88 => ?_)
        · refine wp_aload_n k59_109 rfl rfl ?_
          refine wq_getR k59_110 h0.1 rfl ?_
          refine wp_aload_n k59_113 rfl rfl ?_
          refine wp_iconst 0 k59_114 (by decide) ?_
          refine wp_aload_n k59_115 rfl rfl ?_
          refine wq_getR k59_116 h2.1 rfl ?_
          refine wcvN (st2 := []) k59_119 (cw17 (S := S) h0.2.2.1 h1 h2.2) (by decide) rfl rfl rfl rfl (by decide) h0.2.2.1.1.o (by decide) (fun W119 g119 => ?_)
          have f119 := FR.t f68 g119
          exact j122  _ f119
        · exact j91  _ f68
    · exact wp_retN k59_74 rfl ⟨_, rfl, rfl, f68⟩
  have j38 : ∀  (W38 : hV), FR sh V W38 → WP S 5 mm_m59 38 [some (.ref 80), some (.ref p1), some (.ref p2)] [] (hH sh W38) (wN sh V) := by
    intro W38 f38
    refine wp_aload_n k59_38 rfl rfl ?_
    refine wp_aload_n k59_39 rfl rfl ?_
    refine wq_getR k59_40 h0.1 rfl ?_
    refine wp_aload_n k59_43 rfl rfl ?_
    refine wq_getR k59_44 h1.1 rfl ?_
    refine wcvI (st2 := [_]) k59_47 (cw84 (S := S) h0.2.1 h1.2.2.1) (by decide) rfl rfl rfl rfl (by decide) h0.2.1.1.o (by decide) (fun x47 W47 g47 => ?_)
    have f47 := FR.t f38 g47
    refine wq_putI k59_50 h2.1 rfl rfl rfl (Or.inr (by decide)) rfl (fun W50 g50 => ?_)
    have f50 := FR.t f47 g50
    refine wp_aload_n k59_53 rfl rfl ?_
    refine wp_aload_n k59_54 rfl rfl ?_
    refine wq_getI k59_55 h2.1 rfl ?_
    refine wcsI (st2 := [_]) k59_58 (cw160 (S := S)) (by decide) rfl rfl rfl (by decide) (fun x58 W58 g58 => ?_)
    have f58 := FR.t f50 g58
    refine wq_putI k59_61 h2.1 rfl rfl rfl (Or.inr (by decide)) rfl (fun W61 g61 => ?_)
    have f61 := FR.t f58 g61
    exact j64  _ f61
  refine ev_of P59 rfl ?_
  refine wp_aload_n k59_0 rfl rfl ?_
  refine wp_iconst (-1) k59_1 (by decide) ?_
  refine wq_putI k59_2 h2.1 rfl rfl rfl (Or.inr (by decide)) rfl (fun W2 g2 => ?_)
  have f2 := FR.t f0 g2
  refine wp_aload_n k59_5 rfl rfl ?_
  refine wq_getI k59_6 h2.1 rfl ?_
  refine wp_iconst 2 k59_9 (by decide) ?_
  refine wp_if_icmp_ne k59_10 (fun c10 => ?_) (fun c10 => ?_)
  · refine wp_aload_n k59_22 rfl rfl ?_
    refine wq_getI k59_23 h2.1 rfl ?_
    refine wp_iconst 1 k59_26 (by decide) ?_
    refine wp_if_icmp_eq k59_27 (fun c27 => ?_) (fun c27 => ?_)
    · exact j38  _ f2
    · refine wp_aload_n k59_30 rfl rfl ?_
      refine wq_getI k59_31 h2.1 rfl ?_
      refine wp_iconst 3 k59_34 (by decide) ?_
      refine wp_if_icmp_ne k59_35 (fun c35 => ?_) (fun c35 => ?_)
      · exact j64  _ f2
      · exact j38  _ f2
  · refine wp_aload_n k59_13 rfl rfl ?_
    refine wp_aload_n k59_14 rfl rfl ?_
    refine wp_aload_n k59_15 rfl rfl ?_
    refine wcvN (st2 := []) k59_16 (cw60 (S := S) h0 h1 h2 (f2.2.2 hC)) (by decide) rfl rfl rfl rfl (by decide) h0.1.o (by decide) (fun W16 g16 => ?_)
    have f16 := FR.t f2 g16
    refine wp_goto k59_19 ?_
    exact j64  _ f16
theorem cw57 {S : ww_S} {sh : List mm_C} {V : hV} (h0 : kOR sh) {p1 : Nat} (h1 : kScene sh p1) (hC : CN sh V) : EVQ S 9 57 [.ref 80, .ref p1] (hH sh V) (wN sh V) := by
  have f0 := FR.r sh V
  have j74 : ∀ (x2_74 : Int32) (y3_74 : Option Value) (W74 : hV), FR sh V W74 → WP S 8 mm_m57 74 [some (.ref 80), some (.ref p1), some (.int x2_74), y3_74] [] (hH sh W74) (wN sh V) := by
    intro x2_74 y3_74 W74 f74
    exact wp_retN k57_74 rfl ⟨_, rfl, rfl, f74⟩
  have j14 : ∀ (m14 : Nat) (x2_14 : Int32) (y3_14 : Option Value) (W14 : hV), mea x2_14 < m14 → FR sh V W14 → WP S 8 mm_m57 14 [some (.ref 80), some (.ref p1), some (.int x2_14), y3_14] [] (hH sh W14) (wN sh V) := by
    intro m14
    induction m14 with
    | zero =>
      intro x2_14 y3_14 W14 hm14 f14
      exact absurd hm14 (Nat.not_lt_zero _)
    | succ m14 ih14 =>
      intro x2_14 y3_14 W14 hm14 f14
      have j68 : ∀ (y3_68 : Option Value) (W68 : hV), mea (x2_14 + 1) < m14 → FR sh V W68 → WP S 8 mm_m57 68 [some (.ref 80), some (.ref p1), some (.int x2_14), y3_68] [] (hH sh W68) (wN sh V) := by
        intro y3_68 W68 hd14 f68
        refine wp_iinc (L1 := [_, _, _, _]) 1 k57_68 rfl (by decide) rfl ?_
        refine wp_goto k57_71 ?_
        exact ih14 _ _ _ hd14 f68
      refine wp_iload_n k57_14 rfl rfl ?_
      refine wp_bipush 20 k57_15 (by decide) ?_
      refine wp_if_icmp_gt k57_17 (fun c17 => ?_) (fun c17 => ?_)
      · exact j74 _ _ _ f14
      · have hd14 : mea (x2_14 + 1) < m14 := Nat.lt_of_lt_of_le (mea_n c17 (by decide)) (Nat.le_of_lt_succ hm14)
        refine wp_aload_n k57_20 rfl rfl ?_
        refine wq_getR k57_21 h0.1 rfl ?_
        refine wq_getI k57_24 h0.2.1.1 rfl ?_
        refine wp_sipush 267 k57_27 (by decide) ?_
        refine wp_if_icmp_eq k57_30 (fun c30 => ?_) (fun c30 => ?_)
        · exact j74 _ _ _ f14
        · refine wp_aload_n k57_33 rfl rfl ?_
          refine wq_getR k57_34 h0.1 rfl ?_
          refine wcvZ (st2 := []) k57_37 (cw76 (S := S) h0.2.1) (by decide) rfl rfl rfl rfl (by decide) h0.2.1.1.o (by decide) (fun b37 W37 g37 => ?_)
          have f37 := FR.t f14 g37
          refine wp_if_ne k57_40 (fun c40 => ?_) (fun c40 => ?_)
          · exact j74 _ _ _ f37
          · refine wp_aload_n k57_43 rfl rfl ?_
            refine wcvO (st2 := []) k57_44 (cw58 (S := S) h0) (by decide) rfl rfl rfl rfl (by decide) h0.1.o (by decide) (fun W44 g44 => ?_) (fun a44 W44 ha44 g44 => ?_)
            · have f44 := FR.t f37 g44
              refine wp_astore_n (L1 := [_, _, _, _]) k57_47 rfl rfl ?_
              refine wp_aload_n k57_48 rfl rfl ?_
              refine wp_ifnull_n k57_49 ?_
              exact j68 _ _ hd14 f44
            · have f44 := FR.t f37 g44
              refine wp_astore_n (L1 := [_, _, _, _]) k57_47 rfl rfl ?_
              refine wp_aload_n k57_48 rfl rfl ?_
              refine wp_ifnull_r k57_49 ha44.1.h ?_
              refine wp_aload_n k57_52 rfl rfl ?_
              refine wp_aload_n k57_53 rfl rfl ?_
              refine wp_aload_n k57_54 rfl rfl ?_
              refine wcvN (st2 := []) k57_55 (cw59 (S := S) h0 h1 ha44 (f44.2.2 hC)) (by decide) rfl rfl rfl rfl (by decide) h0.1.o (by decide) (fun W55 g55 => ?_)
              have f55 := FR.t f44 g55
              refine wp_aload_n k57_58 rfl rfl ?_
              refine wq_getR k57_59 h0.1 rfl ?_
              refine wp_bipush 59 k57_62 (by decide) ?_
              refine wcvZ (st2 := []) k57_64 (cw80 (S := S) h0.2.1) (by decide) rfl rfl rfl rfl (by decide) h0.2.1.1.o (by decide) (fun b64 W64 g64 => ?_)
              have f64 := FR.t f55 g64
              refine wp_pop k57_67 rfl ?_
              exact j68 _ _ hd14 f64
  refine ev_of P57 rfl ?_
  refine wp_aload_n k57_0 rfl rfl ?_
  refine wp_iconst 0 k57_1 (by decide) ?_
  refine wq_putI k57_2 h0.1 rfl rfl rfl (Or.inr (by decide)) rfl (fun W2 g2 => ?_)
  have f2 := FR.t f0 g2
  refine wp_aload_n k57_5 rfl rfl ?_
  refine wq_getR k57_6 h0.1 rfl ?_
  refine wcvN (st2 := []) k57_9 (cw65 (S := S) h0.2.1) (by decide) rfl rfl rfl rfl (by decide) h0.2.1.1.o (by decide) (fun W9 g9 => ?_)
  have f9 := FR.t f2 g9
  refine wp_iconst 0 k57_12 (by decide) ?_
  refine wp_istore_n (L1 := [_, _, _, _]) k57_13 rfl rfl ?_
  exact j14 _ _ _ _ (Nat.lt_succ_self _) f9
end M45
