section M81
/-! ===== the law: append, truncate, the loop ===== -/
theorem e_thrown {S : ww_S} {sh : List mm_C} {V : hV} (hM : MS sh) {z : Int32} (hz : V.1 312 6 = z) : EV S 1 170 [.ref 312] (hH sh V) (.inl (some (.int z))) (hH sh V) := by
  refine ev_qe P170 rfl ?_
  refine wp_aload_n k170_0 rfl rfl ?_
  refine wp_getI k170_1 (by decide) hM.o rfl z hz ?_
  exact wp_reti k170_4 rfl rfl rfl
theorem lc_self (x : Int64) : mm_lcmp x x = 0 := by
  rcases lc_cases x x with h | h | h
  · exact absurd h.2 (Int64.lt_irrefl)
  · exact h.1
  · exact absurd h.2 (Int64.lt_irrefl)
theorem i_m6 {n m : Nat} (hn : n ≤ 3072) (hm : m ≤ 4000) : Int32.ofNat n - 6 < Int32.ofNat m ↔ n < m + 6 := by
  rw [Int32.lt_iff_toInt_lt, Int32.toInt_sub, Int32.toInt_ofNat_of_lt (by omega), Int32.toInt_ofNat_of_lt (by omega)]
  show ((n : Int) - 6).bmod (2 ^ 32) < (m : Int) ↔ _
  rw [Int.bmod_eq_of_le (by omega) (by omega)]
  omega
theorem inI_t {m l : Nat} (h : m ≤ l) (h6 : l ≤ 600) : inI (Int32.ofNat m) 0 (Int32.ofNat l) = true := decide_eq_true ⟨Int32.not_lt.mp (i_nlt (k := m) (n := 0) (Nat.zero_le _) (by omega)), Int32.not_lt.mp (i_nlt (k := l) (n := m) h (by omega))⟩
theorem inI_f {x : Int32} {l : Nat} (h : x < 0 ∨ Int32.ofNat l < x) : inI x 0 (Int32.ofNat l) = false := decide_eq_false fun q => by
  rcases h with h | h
  · exact Int32.not_lt.mpr q.1 h
  · exact Int32.not_lt.mpr q.2 h
theorem lo0 {S : ww_S} {sh : List mm_C} {V : hV} {Q : mm_V → mm_H → Prop} {r l j : Nat} {xs : Nat → Int32} {B : hB} (hb : BLf B l) (h : LT r sh V (Int32.ofNat l) (Int32.ofNat l) B) (h6 : l ≤ 600) (hS : S.1 ≤ 3072) (hj : j + 6 ≤ S.1) (hx : ∀ q, S.2 q = some (xs q)) (x5 x6 x7 x8 : Option Value) (w : NXT S Q r j) : WP S 200 mz_M 248 [some (.ref 0), some (.ref 64), some (.ref 312), some (.ref 323), some (.int (Int32.ofNat j)), x5, x6, x7, x8] [] (hH sh V) Q := by
  refine wp_aload_n KL248 rfl rfl ?_
  refine wp_arg (k := 1) (x := xs (j + 1)) KL249 KL250 KL252 KL253 KL254 rfl rfl (by decide) (by omega) hS (hx _) ?_
  refine wp_arg (k := 2) (x := xs (j + 2)) KL255 KL256 KL258 KL259 KL260 rfl rfl (by decide) (by omega) hS (hx _) ?_
  refine wp_arg (k := 3) (x := xs (j + 3)) KL261 KL262 KL264 KL265 KL266 rfl rfl (by decide) (by omega) hS (hx _) ?_
  refine wp_arg (k := 4) (x := xs (j + 4)) KL267 KL268 KL270 KL271 KL272 rfl rfl (by decide) (by omega) hS (hx _) ?_
  refine wp_arg (k := 5) (x := xs (j + 5)) KL273 KL274 KL276 KL277 KL278 rfl rfl (by decide) (by omega) hS (hx _) ?_
  refine wp_aload_n KL279 rfl rfl ?_
  obtain ⟨v, g, e, k, s, W, e1, e2, hd⟩ := wr314 (S := S) h h6 (p1 := xs (j + 1)) (p2 := xs (j + 2)) (p3 := xs (j + 3)) (p4 := xs (j + 4)) (p5 := xs (j + 5))
  subst e1 e2
  refine wp_cs (st2 := []) KL280 e (by decide) rfl rfl rfl (by decide) ?_
  refine wp_istore (L1 := [_, _, _, _, _, _, _, _, _]) KL283 rfl rfl ?_
  refine wp_aload_n KL285 rfl rfl ?_
  refine wp_arg (k := 1) (x := xs (j + 1)) KL286 KL287 KL289 KL290 KL291 rfl rfl (by decide) (by omega) hS (hx _) ?_
  refine wp_arg (k := 2) (x := xs (j + 2)) KL292 KL293 KL295 KL296 KL297 rfl rfl (by decide) (by omega) hS (hx _) ?_
  refine wp_arg (k := 3) (x := xs (j + 3)) KL298 KL299 KL301 KL302 KL303 rfl rfl (by decide) (by omega) hS (hx _) ?_
  refine wp_arg (k := 4) (x := xs (j + 4)) KL304 KL305 KL307 KL308 KL309 rfl rfl (by decide) (by omega) hS (hx _) ?_
  refine wp_arg (k := 5) (x := xs (j + 5)) KL310 KL311 KL313 KL314 KL315 rfl rfl (by decide) (by omega) hS (hx _) ?_
  rcases hd with ⟨h5, rfl, ho, h2⟩ | ⟨h5, rfl, h2⟩
  · obtain ⟨v8, g8, e8, y, U, e1, e2, hR, hZ, h22, hd⟩ := r_append (S := S) h2.2.2.2.1 h2.2.2.2.2.1 h2.2.2.2.2.2.2.1 h6 (p1 := xs (j + 1)) (p2 := xs (j + 2)) (p3 := xs (j + 3)) (p4 := xs (j + 4)) (p5 := xs (j + 5))
    subst e1 e2
    refine wp_cv (st2 := []) KL316 e8 (by decide) rfl rfl rfl rfl (by decide) h2.2.2.2.1.o (by decide) ?_
    refine wp_istore (L1 := [_, _, _, _, _, _, _, _, _]) KL319 rfl rfl ?_
    rcases hd with ⟨_, rfl, hL, hT, hX⟩ | ⟨h9, _, _, _⟩
    rotate_left 1
    · omega
    have h3 := h2.refA hR hL hZ
    have hb2 : BLf ((apV V l (xs (j + 1)) (xs (j + 2)) (xs (j + 3)) (xs (j + 4)) (xs (j + 5))).1 66, U.1 319) (l + 20) := by
      rw [hX]
      refine bl_ap (fun k hk => ?_)
      rw [show (up W 312 6 0).1 319 = W.1 319 from funext fun q => up_ne _ _ (Or.inl (by decide)), h2.2.2.2.2.2.2.2.2.2.2.2.2, h.2.2.2.2.2.2.2.2.2.2.2.1]
      exact hb k hk
    refine wp_goto KL321 ?_
    exact w _ _ (l + 20) _ (h3.mono (by omega)) hb2 (by omega) _ _ _ _
  · obtain ⟨v8, g8, e8, y, U, e1, e2, hR, hZ, h22, hd⟩ := r_append (S := S) h2.2.2.2.1 h2.2.2.2.2.1 h2.2.2.2.2.2.2.1 h6 (p1 := xs (j + 1)) (p2 := xs (j + 2)) (p3 := xs (j + 3)) (p4 := xs (j + 4)) (p5 := xs (j + 5))
    subst e1 e2
    refine wp_cv (st2 := []) KL316 e8 (by decide) rfl rfl rfl rfl (by decide) h2.2.2.2.1.o (by decide) ?_
    refine wp_istore (L1 := [_, _, _, _, _, _, _, _, _]) KL319 rfl rfl ?_
    rcases hd with ⟨h9, _, _, _, _⟩ | ⟨_, hL, hT, h19⟩
    · omega
    have h3 := h2.ref hR (hL.trans h2.2.2.2.2.2.2.1) hZ h19
    refine wp_goto KL321 ?_
    exact w _ _ l _ (h3.mono (by omega)) hb h6 _ _ _ _
theorem lo1 {S : ww_S} {sh : List mm_C} {V : hV} {Q : mm_V → mm_H → Prop} {r l j : Nat} {xs : Nat → Int32} {B : hB} (hb : BLf B l) (h : LT r sh V (Int32.ofNat l) (Int32.ofNat l) B) (h6 : l ≤ 600) (hS : S.1 ≤ 3072) (hj : j + 6 ≤ S.1) (hx : ∀ q, S.2 q = some (xs q)) (x5 x6 x7 x8 : Option Value) (w : NXT S Q r j) : WP S 200 mz_M 324 [some (.ref 0), some (.ref 64), some (.ref 312), some (.ref 323), some (.int (Int32.ofNat j)), x5, x6, x7, x8] [] (hH sh V) Q := by
  refine wp_aload_n KL324 rfl rfl ?_
  refine wp_arg (k := 1) (x := xs (j + 1)) KL325 KL326 KL328 KL329 KL330 rfl rfl (by decide) (by omega) hS (hx _) ?_
  refine wp_aload_n KL331 rfl rfl ?_
  obtain ⟨v, g, e, k, s, W, e1, e2, hd⟩ := wr315 (S := S) h h6 (p1 := xs (j + 1))
  subst e1 e2
  refine wp_cs (st2 := []) KL332 e (by decide) rfl rfl rfl (by decide) ?_
  refine wp_istore (L1 := [_, _, _, _, _, _, _, _, _]) KL335 rfl rfl ?_
  refine wp_aload_n KL337 rfl rfl ?_
  refine wp_arg (k := 1) (x := xs (j + 1)) KL338 KL339 KL341 KL342 KL343 rfl rfl (by decide) (by omega) hS (hx _) ?_
  rcases hd with ⟨m, hm, hxm, rfl, ho, h2⟩ | ⟨hxm, rfl, h2⟩
  · obtain ⟨v8, g8, e8, y, U, e1, e2, hR, hZ, h22, h19, hd⟩ := r_truncate (S := S) h2.2.2.2.1 h2.2.2.2.2.1 h2.2.2.2.2.2.2.1 h6 (x := xs (j + 1))
    subst e1 e2
    refine wp_cv (st2 := []) KL344 e8 (by decide) rfl rfl rfl rfl (by decide) h2.2.2.2.1.o (by decide) ?_
    refine wp_istore (L1 := [_, _, _, _, _, _, _, _, _]) KL347 rfl rfl ?_
    have hi := inI_t hm h6
    rw [← hxm] at hi
    rcases hd with ⟨_, rfl, hL, hT⟩ | ⟨h9, _, _⟩
    rotate_left 1
    · rw [hi] at h9
      cases h9
    have h3 := h2.ref hR hL hZ h19
    refine wp_goto KL349 ?_
    rw [hxm] at h3
    exact w _ _ m _ (h3.mono (by omega)) (fun k hk => hb k (by omega)) (by omega) _ _ _ _
  · obtain ⟨v8, g8, e8, y, U, e1, e2, hR, hZ, h22, h19, hd⟩ := r_truncate (S := S) h2.2.2.2.1 h2.2.2.2.2.1 h2.2.2.2.2.2.2.1 h6 (x := xs (j + 1))
    subst e1 e2
    refine wp_cv (st2 := []) KL344 e8 (by decide) rfl rfl rfl rfl (by decide) h2.2.2.2.1.o (by decide) ?_
    refine wp_istore (L1 := [_, _, _, _, _, _, _, _, _]) KL347 rfl rfl ?_
    have hi := inI_f hxm
    rcases hd with ⟨h9, _, _, _⟩ | ⟨_, hL, hT⟩
    · rw [hi] at h9
      cases h9
    have h3 := h2.ref hR (hL.trans h2.2.2.2.2.2.2.1) hZ h19
    refine wp_goto KL349 ?_
    exact w _ _ l _ (h3.mono (by omega)) hb h6 _ _ _ _
theorem law_loop {S : ww_S} {Q : mm_V → mm_H → Prop} {xs : Nat → Int32} (hS : S.1 ≤ 3072) (hx : ∀ q, S.2 q = some (xs q)) (hQ : ∀ g : mm_H, g.length ≤ 601024 → mm_sum g ≤ 7293034 → Q (.inl (some (.int 1))) g) : ∀ (g i r l : Nat) (sh : List mm_C) (V : hV) (B : hB) (x5 x6 x7 x8 : Option Value), g + i = 513 → LT r sh V (Int32.ofNat l) (Int32.ofNat l) B → BLf B l → l ≤ 600 → r ≤ 7 * i → WP S 200 mz_M 23 [some (.ref 0), some (.ref 64), some (.ref 312), some (.ref 323), some (.int (Int32.ofNat (6 * i))), x5, x6, x7, x8] [] (hH sh V) Q := by
  have fin : ∀ (i r l : Nat) (sh : List mm_C) (V : hV) (B : hB) (x5 x6 x7 x8 : Option Value), i ≤ 513 → ¬ 6 * i + 6 ≤ S.1 → LT r sh V (Int32.ofNat l) (Int32.ofNat l) B → r ≤ 7 * i → WP S 200 mz_M 23 [some (.ref 0), some (.ref 64), some (.ref 312), some (.ref 323), some (.int (Int32.ofNat (6 * i))), x5, x6, x7, x8] [] (hH sh V) Q := by
    intro i r l sh V B x5 x6 x7 x8 hi c h hr
    refine wp_iload KL23 rfl rfl ?_
    refine wp_aload_n KL25 rfl rfl ?_
    refine wp_alen0 KL26 ?_
    refine wp_bipush 6 KL27 (by decide) ?_
    refine wp_isub KL29 ?_
    refine wp_if_icmp_gt_T KL30 ((i_m6 hS (by omega)).mpr (by omega)) ?_
    refine wp_iconst 1 KL1444 (by decide) ?_
    have hr := h.room (by omega)
    exact wp_retZ (b := true) KL1445 rfl (hQ _ hr.1 hr.2)
  intro g
  induction g with
  | zero =>
    intro i r l sh V B x5 x6 x7 x8 hi h hb h6 hr
    exact fin i r l sh V B x5 x6 x7 x8 (by omega) (by omega) h hr
  | succ g ih =>
    intro i r l sh V B x5 x6 x7 x8 hi h hb h6 hr
    by_cases c : 6 * i + 6 ≤ S.1
    · have w : NXT S Q r (6 * i) := by
        intro s W l2 B2 h2 hb2 h62 y5 y6 y7 y8
        refine wp_iinc (L1 := [_, _, _, _, _, _, _, _, _]) 6 KL1438 rfl (by decide) rfl ?_
        refine wp_goto KL1441 ?_
        rw [show Int32.ofNat (6 * i) + 6 = Int32.ofNat (6 * (i + 1)) from i_add (6 * i) 6]
        exact ih (i + 1) (r + 7) l2 s W B2 _ _ _ _ (by omega) h2 hb2 h62 (by omega)
      have e6 : mm_un (Int32.ofNat (6 * i)) = 6 * i := i_un (by omega)
      obtain ⟨n, hn, hn2⟩ := and63 (xs (6 * i))
      refine wp_iload KL23 rfl rfl ?_
      refine wp_aload_n KL25 rfl rfl ?_
      refine wp_alen0 KL26 ?_
      refine wp_bipush 6 KL27 (by decide) ?_
      refine wp_isub KL29 ?_
      refine wp_if_icmp_gt_F KL30 (fun z => by have := (i_m6 hS (by omega)).mp z; omega) ?_
      refine wp_aload_n KL33 rfl rfl ?_
      refine wp_iload KL34 rfl rfl ?_
      refine wp_iaload0 (x := xs (6 * i)) KL36 ?_ (by rw [e6]; exact hx _) ?_
      · unfold mm_in
        rw [e6, Nat.ble_eq_true_of_le (show 6 * i + 1 ≤ S.1 by omega), Nat.ble_eq_true_of_le (show S.1 ≤ 2147483647 by omega)]
        rfl
      refine wp_bipush 63 KL37 (by decide) ?_
      refine wp_iand KL39 ?_
      refine wp_tsw KL40 (fun q t ht hq => ?_) (fun _ => w _ _ l _ (h.mono (by omega)) hb h6 _ _ _ _) (by decide)
      have hm := List.mem_of_getElem? ht
      simp only [List.mem_cons, List.not_mem_nil, or_false] at hm
      rcases hm with rfl | rfl | rfl | rfl | rfl | rfl | rfl | rfl | rfl | rfl | rfl | rfl | rfl | rfl | rfl | rfl | rfl | rfl | rfl | rfl | rfl | rfl | rfl | rfl | rfl | rfl | rfl | rfl | rfl | rfl | rfl | rfl | rfl | rfl | rfl | rfl | rfl | rfl | rfl | rfl | rfl | rfl | rfl | rfl | rfl | rfl | rfl | rfl
      · exact lo0 hb h h6 hS c hx _ _ _ _ w
      · exact lo1 hb h h6 hS c hx _ _ _ _ w
      · exact lo2 hb h h6 hS c hx _ _ _ _ w
      · exact lo3 hb h h6 hS c hx _ _ _ _ w
      · exact lo4 hb h h6 hS c hx _ _ _ _ w
      · exact lo5 hb h h6 hS c hx _ _ _ _ w
      · exact lo6 hb h h6 hS c hx _ _ _ _ w
      · exact lo7 hb h h6 hS c hx _ _ _ _ w
      · exact lo8 hb h h6 hS c hx _ _ _ _ w
      · exact lo9 hb h h6 hS c hx _ _ _ _ w
      · exact lo10 hb h h6 hS c hx _ _ _ _ w
      · exact lo11 hb h h6 hS c hx _ _ _ _ w
      · exact lo12 hb h h6 hS c hx _ _ _ _ w
      · exact lo13 hb h h6 hS c hx _ _ _ _ w
      · exact lo14 hb h h6 hS c hx _ _ _ _ w
      · exact lo15 hb h h6 hS c hx _ _ _ _ w
      · exact lo16 hb h h6 hS c hx _ _ _ _ w
      · exact lo17 hb h h6 hS c hx _ _ _ _ w
      · exact lo18 hb h h6 hS c hx _ _ _ _ w
      · exact lo19 hb h h6 hS c hx _ _ _ _ w
      · exact lo20 hb h h6 hS c hx _ _ _ _ w
      · exact lo21 hb h h6 hS c hx _ _ _ _ w
      · exact lo22 hb h h6 hS c hx _ _ _ _ w
      · exact lo23 hb h h6 hS c hx _ _ _ _ w
      · exact lo24 hb h h6 hS c hx _ _ _ _ w
      · exact lo25 hb h h6 hS c hx _ _ _ _ w
      · exact lo26 hb h h6 hS c hx _ _ _ _ w
      · exact lo27 hb h h6 hS c hx _ _ _ _ w
      · exact lo28 hb h h6 hS c hx _ _ _ _ w
      · exact lo29 hb h h6 hS c hx _ _ _ _ w
      · exact lo30 hb h h6 hS c hx _ _ _ _ w
      · exact lo31 hb h h6 hS c hx _ _ _ _ w
      · exact lo32 hb h h6 hS c hx _ _ _ _ w
      · exact lo33 hb h h6 hS c hx _ _ _ _ w
      · exact lo34 hb h h6 hS c hx _ _ _ _ w
      · exact lo35 hb h h6 hS c hx _ _ _ _ w
      · exact lo36 hb h h6 hS c hx _ _ _ _ w
      · exact lo37 hb h h6 hS c hx _ _ _ _ w
      · exact lo38 hb h h6 hS c hx _ _ _ _ w
      · exact lo39 hb h h6 hS c hx _ _ _ _ w
      · exact lo40 hb h h6 hS c hx _ _ _ _ w
      · exact lo41 hb h h6 hS c hx _ _ _ _ w
      · exact lo42 hb h h6 hS c hx _ _ _ _ w
      · exact lo43 hb h h6 hS c hx _ _ _ _ w
      · exact lo44 hb h h6 hS c hx _ _ _ _ w
      · exact lo45 hb h h6 hS c hx _ _ _ _ w
      · exact lo46 hb h h6 hS c hx _ _ _ _ w
      · exact lo47 hb h h6 hS c hx _ _ _ _ w
    · exact fin i r l sh V B x5 x6 x7 x8 (by omega) c h hr
end M81
