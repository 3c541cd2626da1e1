section M49
/-! ===== the class: a new scene; readText; append, truncate ===== -/
theorem wp_obj {S : ww_S} {D : Nat} {M : mm_M} {pc p9 nx : Nat} {L : mm_L} {st : List Value} {h : mm_H} {Q : mm_V → mm_H → Prop} {u a : Nat} {r : List Nat} (hk : mm_lk M.1 pc = some (p9, .invokespecial u, nx, 9 :: r)) (ha : 64 ≤ a) (hb : Nat.ble st.length 4 = true) (w : WP S D M nx L st h Q) : WP S D M pc L (.ref a :: st) h Q := wp_go hk (by simp only [mm_stp]; rw [Nat.ble_eq_true_of_le ha, hb]; rfl) w
theorem h0_of {fs : List Value} (h : fs.all (fun v => match v with
  | .int z => decide (z = 0)
  | _ => true) = true) : ∀ v ∈ fs, ∀ z, v = .int z → z = 0 := fun v hv z e => by
  have h2 := List.all_eq_true.mp h v hv
  subst e
  exact of_decide_eq_true h2
theorem ap_set (sh l : List mm_C) (k : Nat) (x : mm_C) : (sh ++ l).set (64 + sh.length + k - 64) x = sh ++ l.set k x := by
  rw [show 64 + sh.length + k - 64 = sh.length + k by omega, List.set_append, if_neg (by omega), Nat.add_sub_cancel_left]
theorem ap_get (sh l : List mm_C) (k : Nat) : (sh ++ l)[64 + sh.length + k - 64]? = l[k]? := by
  rw [show 64 + sh.length + k - 64 = sh.length + k by omega, List.getElem?_append_right (Nat.le_add_right _ _), Nat.add_sub_cancel_left]
def nm0 : mm_C := .inr (.inr (7, [.null, .int 0]))
def nm1 (n : Nat) : mm_C := .inr (.inr (7, [.ref (n + 1), .int 0]))
def ar5 : mm_C := .inl (0, 5, 0)
theorem e_names {S : ww_S} {sh : List mm_C} {V : hV} {n : Nat} (hn : n = 64 + sh.length) : EV S 1 48 [.ref n, .int 5] (hH (sh ++ [nm0]) V) (.inl none) (hH (sh ++ [nm1 n, ar5]) (clr V (n + 1))) := by
  subst hn
  refine ev_qe P48 rfl ?_
  refine wp_aload_n k48_0 rfl rfl ?_
  refine wp_obj k48_1 (by omega) rfl ?_
  refine wp_aload_n k48_4 rfl rfl ?_
  refine wp_iload_n k48_5 rfl rfl ?_
  refine wp_iconst 0 k48_6 (by decide) ?_
  refine wp_max k48_7 rfl ?_
  refine wp_cast (show (if (5 : Int32) < 0 then (0 : Int32) else 5) = Int32.ofNat 5 from by decide) ?_
  refine wp_newarr (a := 64 + sh.length + 1) k48_10 (by decide) (by simp only [List.length_append, List.length_cons, List.length_nil]; omega) ?_
  rw [List.append_assoc]
  refine wp_putR (a := 64 + sh.length + 0) k48_12 (by omega) (ap_get sh _ 0) rfl rfl rfl ?_
  refine wp_retn k48_15 rfl ?_
  rw [ap_set]
  rfl
def sc0 : mm_C := .inr (.inr (10, [.null, .null, .null, .int 0, .int 0, .int 0]))
def scL (a : Nat) : List mm_C := [.inr (.inr (10, [.ref (a + 1), .ref (a + 3), .ref (a + 5), .int 0, .int 0, .int 0])), nm1 (a + 1), ar5, nm1 (a + 3), ar5, ar5]
def scV (V : hV) (a : Nat) : hV := up (clr (clr (clr (clr (clr V (a + 1)) (a + 2)) (a + 3)) (a + 4)) (a + 5)) a 5 (-1)
theorem e_scene {S : ww_S} {sh : List mm_C} {V : hV} {a : Nat} (ha : a = 64 + sh.length) : EV S 2 61 [.ref a] (hH (sh ++ [sc0]) V) (.inl none) (hH (sh ++ scL a) (scV V a)) := by
  subst ha
  have N1 := e_names (S := S) (sh := sh ++ [sc0]) (V := clr V (64 + sh.length + 1)) (n := 64 + sh.length + 1) (by simp only [List.length_append, List.length_cons, List.length_nil]; omega)
  refine ev_qe P61 rfl ?_
  refine wp_aload_n k61_0 rfl rfl ?_
  refine wp_obj k61_1 (by omega) rfl ?_
  refine wp_aload_n k61_4 rfl rfl ?_
  refine wp_new (a := 64 + sh.length + 1) (fs := [.null, .int 0]) k61_5 (by simp only [List.length_append, List.length_cons, List.length_nil]; omega) rfl (h0_of rfl) ?_
  refine wp_dup k61_8 rfl ?_
  refine wp_iconst 5 k61_9 (by decide) ?_
  refine wp_cin (st2 := [_, _]) k61_10 N1 (by decide) rfl rfl rfl rfl (by omega) (by decide) ?_
  rw [List.append_assoc]
  refine wp_putR (a := 64 + sh.length + 0) k61_13 (by omega) (ap_get sh _ 0) rfl rfl rfl ?_
  rw [ap_set]
  refine wp_aload_n k61_16 rfl rfl ?_
  have N2 := e_names (S := S) (sh := sh ++ [.inr (.inr (10, [.ref (64 + sh.length + 1), .null, .null, .int 0, .int 0, .int 0])), nm1 (64 + sh.length + 1), ar5]) (V := clr (clr (clr V (64 + sh.length + 1)) (64 + sh.length + 1 + 1)) (64 + sh.length + 3)) (n := 64 + sh.length + 3) (by simp only [List.length_append, List.length_cons, List.length_nil]; omega)
  refine wp_new (a := 64 + sh.length + 3) (fs := [.null, .int 0]) k61_17 (by simp only [List.length_append, List.length_cons, List.length_nil, List.length_set]; omega) rfl (h0_of rfl) ?_
  refine wp_dup k61_20 rfl ?_
  refine wp_iconst 5 k61_21 (by decide) ?_
  refine wp_cin (st2 := [_, _]) k61_22 N2 (by decide) rfl rfl rfl rfl (by omega) (by decide) ?_
  rw [List.append_assoc]
  refine wp_putR (a := 64 + sh.length + 0) k61_25 (by omega) (ap_get sh _ 0) rfl rfl rfl ?_
  rw [ap_set]
  refine wp_aload_n k61_28 rfl rfl ?_
  refine wp_iconst 5 k61_29 (by decide) ?_
  refine wp_cast (show (5 : Int32) = Int32.ofNat 5 from rfl) ?_
  refine wp_newarr (a := 64 + sh.length + 5) k61_30 (by decide) (by simp only [List.length_append, List.length_cons, List.length_nil, List.length_set]; omega) ?_
  rw [List.append_assoc]
  refine wp_putR (a := 64 + sh.length + 0) k61_32 (by omega) (ap_get sh _ 0) rfl rfl rfl ?_
  rw [ap_set]
  refine wp_aload_n k61_35 rfl rfl ?_
  refine wp_iconst (-1) k61_36 (by decide) ?_
  refine wp_putI (a := 64 + sh.length + 0) (fs := [.ref (64 + sh.length + 1), .ref (64 + sh.length + 3), .ref (64 + sh.length + 5), .int 0, .int 0, .int 0]) k61_37 (by omega) (ap_get sh _ 0) rfl rfl rfl ?_
  exact wp_retn k61_40 rfl rfl
theorem sc_ex (sh l : List mm_C) : EX sh (sh ++ l) := fun a c h _ => by
  rw [List.getElem?_append_left (List.getElem?_eq_some_iff.mp h).1]
  exact h
theorem ap_old {sh l : List mm_C} {i : Nat} {c : mm_C} (h : sh[i]? = some c) : (sh ++ l)[i]? = some c := by
  rw [List.getElem?_append_left (List.getElem?_eq_some_iff.mp h).1]
  exact h
/-- how a new scene stands to what was there; the heap has more than 260 cells -/
theorem sc_fx {sh : List mm_C} {V : hV} (hl : 260 ≤ sh.length) (hW : WI sh) (hB : SBok sh V) : kScene (sh ++ scL (64 + sh.length)) (64 + sh.length) ∧ FX 6 (V.1 65 4) sh V (sh ++ scL (64 + sh.length)) (scV (clr V (64 + sh.length)) (64 + sh.length)) := by
  have e := sc_ex sh (scL (64 + sh.length))
  have g := ap_get sh (scL (64 + sh.length))
  have hv : ∀ b, b < 64 + sh.length → (scV (clr V (64 + sh.length)) (64 + sh.length)).1 b = V.1 b ∧ (scV (clr V (64 + sh.length)) (64 + sh.length)).2 b = V.2 b := by
    intro b hb
    refine ⟨?_, ?_⟩
    · funext j
      refine (up_ne _ _ (Or.inl (by omega))).trans ?_
      unfold clr
      dsimp only
      rw [if_neg (by omega), if_neg (by omega), if_neg (by omega), if_neg (by omega), if_neg (by omega), if_neg (by omega)]
    · unfold scV clr up
      dsimp only
      rw [if_neg (by omega), if_neg (by omega), if_neg (by omega), if_neg (by omega), if_neg (by omega), if_neg (by omega)]
  have hA : ∀ k, (scL (64 + sh.length))[k]? = some ar5 → kA (sh ++ scL (64 + sh.length)) (64 + sh.length + k) 5 := fun k h => ⟨by omega, by omega, by omega, (g k).trans h⟩
  have hN : ∀ k, (scL (64 + sh.length))[k]? = some (nm1 (64 + sh.length + k)) → (scL (64 + sh.length))[k + 1]? = some ar5 → kNames (sh ++ scL (64 + sh.length)) (64 + sh.length + k) := fun k h h2 => ⟨⟨⟨by omega, fun _ => by omega⟩, by omega, by omega, (g k).trans h⟩, hA (k + 1) h2⟩
  refine ⟨⟨⟨⟨by omega, fun _ => by omega⟩, by omega, by omega, g 0⟩, hN 1 rfl rfl, hN 3 rfl rfl, hA 5 rfl⟩, (congrFun (hv 65 (by omega)).1 4), fun b h1 h2 => ⟨?_, hv b (by omega)⟩, e, fun _ => ?_, fun hc => ?_, fun hb => ?_, ?_⟩
  · rw [List.getElem?_append_left (by omega)]
  · refine ⟨hW.1.ex e rfl rfl, hW.2.1.ex e, hW.2.2.1.ex e, hW.2.2.2.1.ex e, e _ _ hW.2.2.2.2.1 rfl, fun b hb => ?_⟩
    obtain ⟨q, hq⟩ := hW.2.2.2.2.2 b hb
    exact ⟨q, ⟨hq.1.1, hq.1.2.1, hq.1.2.2.1, ap_old hq.1.o⟩, hq.2.1.ex e, hq.2.2.1.ex e, hq.2.2.2.1.ex e, hq.2.2.2.2.ex e⟩
  · intro q fs h64 hq
    by_cases hlt : q - 64 < sh.length
    · rw [List.getElem?_append_left hlt] at hq
      rw [congrFun (hv q (by omega)).1 1]
      exact hc q fs h64 hq
    · obtain ⟨k, hk⟩ : ∃ k, q = 64 + sh.length + k := ⟨q - (64 + sh.length), by omega⟩
      subst hk
      rw [g k] at hq
      have h6 : k < 6 := (List.getElem?_eq_some_iff.mp hq).1
      obtain rfl | rfl | rfl | rfl | rfl | rfl : k = 0 ∨ k = 1 ∨ k = 2 ∨ k = 3 ∨ k = 4 ∨ k = 5 := by omega
      · cases hq
      · refine ⟨0, by decide, (up_ne _ _ (Or.inl (by omega))).trans ?_⟩
        unfold clr
        dsimp only
        rw [if_neg (by omega), if_neg (by omega), if_neg (by omega), if_neg (by omega), if_pos rfl]
        rfl
      · cases hq
      · refine ⟨0, by decide, (up_ne _ _ (Or.inl (by omega))).trans ?_⟩
        unfold clr
        dsimp only
        rw [if_neg (by omega), if_neg (by omega), if_pos rfl]
        rfl
      · cases hq
      · cases hq
  · obtain ⟨q, cap, c, h1, h2, h3, h4, h5, h6, h7, h8, h9, h10⟩ := hb
    have h183 := (hv 183 (by omega)).1
    have hq := (hv q (by have := (List.getElem?_eq_some_iff.mp h5).1; omega)).1
    exact ⟨q, cap, c, h1, h2, h3, ap_old h4, ap_old h5, by rw [h183]; exact h6, by rw [h183]; exact h7, h8, h9, by rw [hq]; exact h10⟩
  · have hcap : capS (sh ++ scL (64 + sh.length)) = capS sh := by
      unfold capS
      rw [List.getElem?_append_left (show 183 - 64 < sh.length by omega)]
      split
      · rename_i x p y hx
        by_cases hp : p - 64 < sh.length
        · rw [List.getElem?_append_left hp]
        · obtain ⟨q, cap, c, h1, h2, h3, h4, h5, h6⟩ := hB
          rw [h4] at hx
          cases hx
          exact absurd (List.getElem?_eq_some_iff.mp h5).1 hp
      · rfl
    refine ⟨?_, ?_⟩
    · rw [hcap, List.length_append]
      show sh.length + 6 + capS sh ≤ sh.length + capS sh + 6
      omega
    · rw [hcap]
      unfold shS
      rw [List.map_append, List.sum_append]
      show _ + 25 + _ ≤ _
      omega
theorem cw1t {S : ww_S} {sh : List mm_C} {V : hV} (h0 : kDR sh) {p1 : Nat} (h1 : kScene sh p1) (hC : CN sh V) : WP S 8 mm_m1 8 [some (.ref 79), some (.ref p1), none, none] [] (hH sh V) (wQ p1 sh V) := by
  have f0 := FR.r sh V
  have j175 : ∀ (x2_175 : Int32) (y3_175 : Option Value) (W175 : hV), FR sh V W175 → WP S 8 mm_m1 175 [some (.ref 79), some (.ref p1), some (.int x2_175), y3_175] [] (hH sh W175) (wQ p1 sh V) := by
    intro x2_175 y3_175 W175 f175
    refine wp_aload_n k1_175 rfl rfl ?_
    exact wp_retS k1_176 rfl ⟨_, rfl, rfl, f175⟩
  have j156 : ∀ (x2_156 : Int32) (y3_156 : Option Value) (W156 : hV), FR sh V W156 → WP S 8 mm_m1 156 [some (.ref 79), some (.ref p1), some (.int x2_156), y3_156] [] (hH sh W156) (wQ p1 sh V) := by
    intro x2_156 y3_156 W156 f156
    refine wp_aload_n k1_156 rfl rfl ?_
    refine wq_getI k1_157 h1.1 rfl ?_
    refine wp_iconst (-1) k1_160 (by decide) ?_
    refine wp_if_icmp_ne k1_161 (fun c161 => ?_) (fun c161 => ?_)
    · exact j175 _ _ _ f156
    · refine wp_aload_n k1_164 rfl rfl ?_
      refine wp_aload_n k1_165 rfl rfl ?_
      refine wq_getI k1_166 h1.1 rfl ?_
      refine wcsI (st2 := [_]) k1_169 (cw162 (S := S)) (by decide) rfl rfl rfl (by decide) (fun x169 W169 g169 => ?_)
      have f169 := FR.t f156 g169
      refine wq_putI k1_172 h1.1 rfl rfl rfl (Or.inr (by decide)) rfl (fun W172 g172 => ?_)
      have f172 := FR.t f169 g172
      exact j175 _ _ _ f172
  have j22 : ∀ (m22 : Nat) (x2_22 : Int32) (y3_22 : Option Value) (W22 : hV), mea x2_22 < m22 → FR sh V W22 → WP S 8 mm_m1 22 [some (.ref 79), some (.ref p1), some (.int x2_22), y3_22] [] (hH sh W22) (wQ p1 sh V) := by
    intro m22
    induction m22 with
    | zero =>
      intro x2_22 y3_22 W22 hm22 f22
      exact absurd hm22 (Nat.not_lt_zero _)
    | succ m22 ih22 =>
      intro x2_22 y3_22 W22 hm22 f22
      have j150 : ∀ (b3_150 : Bool) (W150 : hV), mea (x2_22 + 1) < m22 → FR sh V W150 → WP S 8 mm_m1 150 [some (.ref 79), some (.ref p1), some (.int x2_22), some (.int (bI b3_150))] [] (hH sh W150) (wQ p1 sh V) := by
        intro b3_150 W150 hd22 f150
        refine wp_iinc (L1 := [_, _, _, _]) 1 k1_150 rfl (by decide) rfl ?_
        refine wp_goto k1_153 ?_
        exact ih22 _ _ _ hd22 f150
      have j135 : ∀ (b3_135 : Bool) (W135 : hV), mea (x2_22 + 1) < m22 → FR sh V W135 → WP S 8 mm_m1 135 [some (.ref 79), some (.ref p1), some (.int x2_22), some (.int (bI b3_135))] [] (hH sh W135) (wQ p1 sh V) := by
        intro b3_135 W135 hd22 f135
        refine wp_aload_n k1_135 rfl rfl ?_
        refine wq_getR k1_136 h0.1 rfl ?_
        refine wp_iconst 1 k1_139 (by decide) ?_
        refine wp_aload_n k1_140 rfl rfl ?_
        refine wq_getR k1_141 h0.1 rfl ?_
        refine wq_getI k1_144 h0.2.1.1 rfl ?_
        refine wcvN (st2 := []) k1_147 (cw75 (S := S) h0.2.1) (by decide) rfl rfl rfl rfl (by decide) h0.2.1.1.o (by decide) (fun W147 g147 => ?_)
        have f147 := FR.t f135 g147
        exact j150 b3_135 _ hd22 f147
      have j91 : ∀ (b3_91 : Bool) (W91 : hV), mea (x2_22 + 1) < m22 → FR sh V W91 → WP S 8 mm_m1 91 [some (.ref 79), some (.ref p1), some (.int x2_22), some (.int (bI b3_91))] [] (hH sh W91) (wQ p1 sh V) := by
        intro b3_91 W91 hd22 f91
        refine wp_aload_n k1_91 rfl rfl ?_
        refine wq_getR k1_92 h0.1 rfl ?_
        refine wp_ldcR k1_95 ?_
        refine wcvZ (st2 := []) k1_97 (cw77 (S := S) h0.2.1 XS26) (by decide) rfl rfl rfl rfl (by decide) h0.2.1.1.o (by decide) (fun b97 W97 g97 => ?_)
        have f97 := FR.t f91 g97
        refine wp_if_eq k1_100 (fun c100 => ?_) (fun c100 => ?_)
        · refine wp_iload_n k1_111 rfl rfl ?_
          refine wp_if_eq k1_112 (fun c112 => ?_) (fun c112 => ?_)
          · exact j135 b3_91 _ hd22 f97
          · refine wp_aload_n k1_115 rfl rfl ?_
            refine wq_getR k1_116 h0.1 rfl ?_
            refine wp_ldcR k1_119 ?_
            refine wcvZ (st2 := []) k1_121 (cw77 (S := S) h0.2.1 XS28) (by decide) rfl rfl rfl rfl (by decide) h0.2.1.1.o (by decide) (fun b121 W121 g121 => ?_)
            have f121 := FR.t f97 g121
            refine wp_if_eq k1_124 (fun c124 => ?_) (fun c124 => ?_)
            · exact j135 b3_91 _ hd22 f121
            · refine wp_aload_n k1_127 rfl rfl ?_
              refine wp_aload_n k1_128 rfl rfl ?_
              refine wcvN (st2 := []) k1_129 (cw6 (S := S) h0 h1 (f121.2.2 hC)) (by decide) rfl rfl rfl rfl (by decide) h0.1.o (by decide) (fun W129 g129 => ?_)
              have f129 := FR.t f121 g129
              refine wp_goto k1_132 ?_
              exact j150 b3_91 _ hd22 f129
        · refine wp_aload_n k1_103 rfl rfl ?_
          refine wp_aload_n k1_104 rfl rfl ?_
          refine wcvN (st2 := []) k1_105 (cw5 (S := S) h0 h1 (f97.2.2 hC)) (by decide) rfl rfl rfl rfl (by decide) h0.1.o (by decide) (fun W105 g105 => ?_)
          have f105 := FR.t f97 g105
          refine wp_goto k1_108 ?_
          exact j150 b3_91 _ hd22 f105
      have j66 : ∀ (bs0_66 : Bool) (W66 : hV), mea (x2_22 + 1) < m22 → FR sh V W66 → WP S 8 mm_m1 66 [some (.ref 79), some (.ref p1), some (.int x2_22), y3_22] [.int (bI bs0_66)] (hH sh W66) (wQ p1 sh V) := by
        intro bs0_66 W66 hd22 f66
        refine wp_istore_n (L1 := [_, _, _, _]) k1_66 rfl rfl ?_
        refine wp_iload_n k1_67 rfl rfl ?_
        refine wp_if_ne k1_68 (fun c68 => ?_) (fun c68 => ?_)
        · exact j91 bs0_66 _ hd22 f66
        · refine wp_aload_n k1_71 rfl rfl ?_
          refine wq_getR k1_72 h0.1 rfl ?_
          refine wp_ldcR k1_75 ?_
          refine wcvZ (st2 := []) k1_77 (cw77 (S := S) h0.2.1 XS24) (by decide) rfl rfl rfl rfl (by decide) h0.2.1.1.o (by decide) (fun b77 W77 g77 => ?_)
          have f77 := FR.t f66 g77
          refine wp_if_eq k1_80 (fun c80 => ?_) (fun c80 => ?_)
          · exact j91 bs0_66 _ hd22 f77
          · refine wp_aload_n k1_83 rfl rfl ?_
            refine wp_aload_n k1_84 rfl rfl ?_
            refine wcvN (st2 := []) k1_85 (cw4 (S := S) h0 h1) (by decide) rfl rfl rfl rfl (by decide) h0.1.o (by decide) (fun W85 g85 => ?_)
            have f85 := FR.t f77 g85
            refine wp_goto k1_88 ?_
            exact j150 bs0_66 _ hd22 f85
      refine wp_iload_n k1_22 rfl rfl ?_
      refine wp_sipush 600 k1_23 (by decide) ?_
      refine wp_if_icmp_gt k1_26 (fun c26 => ?_) (fun c26 => ?_)
      · exact j156 _ _ _ f22
      · have hd22 : mea (x2_22 + 1) < m22 := Nat.lt_of_lt_of_le (mea_n c26 (by decide)) (Nat.le_of_lt_succ hm22)
        refine wp_aload_n k1_29 rfl rfl ?_
        refine wp_aload_n k1_30 rfl rfl ?_
        refine wcvZ (st2 := []) k1_31 (cw2 (S := S) h0 h1) (by decide) rfl rfl rfl rfl (by decide) h0.1.o (by decide) (fun b31 W31 g31 => ?_)
        have f31 := FR.t f22 g31
        refine wp_if_ne k1_34 (fun c34 => ?_) (fun c34 => ?_)
        · exact j156 _ _ _ f31
        · refine wp_aload_n k1_37 rfl rfl ?_
          refine wq_getR k1_38 h0.1 rfl ?_
          refine wp_bipush 59 k1_41 (by decide) ?_
          refine wcvZ (st2 := []) k1_43 (cw80 (S := S) h0.2.1) (by decide) rfl rfl rfl rfl (by decide) h0.2.1.1.o (by decide) (fun b43 W43 g43 => ?_)
          have f43 := FR.t f31 g43
          refine wp_if_ne k1_46 (fun c46 => ?_) (fun c46 => ?_)
          · refine wp_aload_n k1_51 rfl rfl ?_
            refine wq_getR k1_52 h1.1 rfl ?_
            refine wq_getI k1_55 h1.2.2.1.1 rfl ?_
            refine wp_if_le k1_58 (fun c58 => ?_) (fun c58 => ?_)
            · refine wp_iconst 0 k1_65 (by decide) ?_
              exact j66 false _ hd22 f43
            · refine wp_iconst 1 k1_61 (by decide) ?_
              refine wp_goto k1_62 ?_
              exact j66 true _ hd22 f43
          · refine wp_aload_n k1_49 rfl rfl ?_
            exact wp_retS k1_50 rfl ⟨_, rfl, rfl, f43⟩
  refine wp_aload_n k1_8 rfl rfl ?_
  refine wq_getR k1_9 h0.1 rfl ?_
  refine wcvN (st2 := []) k1_12 (cw65 (S := S) h0.2.1) (by decide) rfl rfl rfl rfl (by decide) h0.2.1.1.o (by decide) (fun W12 g12 => ?_)
  have f12 := FR.t f0 g12
  refine wp_aload_n k1_15 rfl rfl ?_
  refine wp_aload_n k1_16 rfl rfl ?_
  refine wcvN (st2 := []) k1_17 (cw3 (S := S) h0 h1 (f12.2.2 hC)) (by decide) rfl rfl rfl rfl (by decide) h0.1.o (by decide) (fun W17 g17 => ?_)
  have f17 := FR.t f12 g17
  refine wp_iconst 0 k1_20 (by decide) ?_
  refine wp_istore_n (L1 := [_, _, _, _]) k1_21 rfl rfl ?_
  exact j22 _ _ _ _ (Nat.lt_succ_self _) f17
theorem cw1 {S : ww_S} {sh : List mm_C} {V : hV} (h0 : kDR sh) (hl : 260 ≤ sh.length) (hW : WI sh) (hB : SBok sh V) (hC : CN sh V) : EVQ S 9 1 [.ref 79] (hH sh V) (xS 6 (V.1 65 4) sh V) := by
  obtain ⟨hq, f⟩ := sc_fx hl hW hB
  have E := e_scene (S := S) (sh := sh) (V := clr V (64 + sh.length)) rfl
  refine ev_of P1 rfl ?_
  refine wp_new (a := 64 + sh.length) (fs := [.null, .null, .null, .int 0, .int 0, .int 0]) k1_0 rfl rfl (h0_of rfl) ?_
  refine wp_dup k1_3 rfl ?_
  refine wp_cin (st2 := [_]) k1_4 E (by decide) rfl rfl rfl rfl (by omega) (by decide) ?_
  refine wp_astore_n (L1 := [_, _, _, _]) k1_7 rfl rfl ?_
  refine WP.imp (cw1t (h0.ex f.2.2.1) hq (f.2.2.2.2.1 hC)) ?_
  intro v g ⟨W, e1, e2, f2⟩
  exact ⟨_, _, W, e1, e2, hq, f.q f2⟩
theorem cw100 {S : ww_S} {sh : List mm_C} {V : hV} (hW : WI sh) (hl : 260 ≤ sh.length) (hB : SBok sh V) (hC : CN sh V) : EVQ S 10 100 [.ref 64] (hH sh V) (xP 6 0 sh V 15) := by
  have f0 := fx_0 sh V
  have h0 := f0.2.2.2.1 hW
  obtain ⟨q0, k0⟩ := h0.who
  obtain ⟨q9, k9⟩ := h0.2.2.2.2.2 203 (Or.inr (Or.inl rfl))
  refine ev_of P100 rfl ?_
  refine wp_aload_n k100_0 rfl rfl ?_
  refine wq_getR k100_1 k0.1 rfl ?_
  refine wxS (st2 := []) k100_4 (cw1 (S := S) k0.2.1 hl h0 (f0.2.2.2.2.2.1 hB) (f0.2.2.2.2.1 hC)) (by decide) rfl rfl rfl rfl (by decide) k0.2.1.1.o (by decide) (fun q4 s4 W4 hq4 g4 => ?_)
  have f4 := FX.t f0 g4
  rw [f0.1] at f4
  have h0 := f4.2.2.2.1 hW
  obtain ⟨q0, k0⟩ := h0.who
  obtain ⟨q9, k9⟩ := h0.2.2.2.2.2 203 (Or.inr (Or.inl rfl))
  refine wp_astore_n (L1 := [_, _]) k100_7 rfl rfl ?_
  refine wp_aload_n k100_8 rfl rfl ?_
  refine wq_getR k100_9 k0.1 rfl ?_
  refine wxZ (st2 := []) k100_12 (cw66 (S := S) k0.2.1.2.1) (by decide) rfl rfl rfl rfl (by decide) k0.2.1.2.1.1.o (by decide) (fun b12 s12 W12 g12 => ?_)
  have f12 := FX.t f4 g12
  have hq4 := hq4.ex g12.2.2.1
  have h0 := f12.2.2.2.1 hW
  obtain ⟨q0, k0⟩ := h0.who
  obtain ⟨q9, k9⟩ := h0.2.2.2.2.2 203 (Or.inr (Or.inl rfl))
  refine wp_if_ne k100_15 (fun c15 => ?_) (fun c15 => ?_)
  · refine wp_aload_n k100_26 rfl rfl ?_
    refine wq_getR k100_27 k0.1 rfl ?_
    refine wp_aload_n k100_30 rfl rfl ?_
    refine wxN (st2 := []) k100_31 (cw87 (S := S) k0.2.2.2.2 hq4) (by decide) rfl rfl rfl rfl (by decide) k0.2.2.2.2.1.o (by decide) (fun s31 W31 g31 => ?_)
    have f31 := FX.t f12 g31
    rw [f12.1] at f31
    have hq4 := hq4.ex g31.2.2.1
    have h0 := f31.2.2.2.1 hW
    obtain ⟨q0, k0⟩ := h0.who
    obtain ⟨q9, k9⟩ := h0.2.2.2.2.2 203 (Or.inr (Or.inl rfl))
    refine wp_aload_n k100_34 rfl rfl ?_
    refine wcvN (st2 := []) k100_35 (cw151 (S := S) k0) (by decide) rfl rfl rfl rfl (by decide) k0.1.o (by decide) (fun W35 g35 => ?_)
    have f35 := FX.q f31 g35
    refine wp_aload_n k100_38 rfl rfl ?_
    refine wq_getR k100_39 k0.1 rfl ?_
    refine wq_getR k100_42 k0.2.2.2.2.1 rfl ?_
    refine wcvI (st2 := []) k100_45 (cw28 (S := S) k0.2.2.2.2.2.1) (by decide) rfl rfl rfl rfl k0.2.2.2.2.2.1.1.h k0.2.2.2.2.2.1.1.o (by decide) (fun x45 W45 g45 => ?_)
    have f45 := FX.q f35 g45
    exact wp_retI k100_48 rfl ⟨_, _, f45, Or.inl ⟨_, rfl, rfl⟩⟩
  · exact wp_thr k100_18 rfl rfl ⟨_, _, f12, Or.inr ⟨rfl, rfl⟩⟩
/-! ===== append of the class, exactly ===== -/
def byK (x k : Int32) : Int32 := (x.toUInt32 >>> (k.toUInt32 &&& Int32.toUInt32 31)).toInt32 &&& 255
def ad1 (V : hV) (l : Nat) (y : Int32) : hV := up (up V 66 l y) 65 4 (Int32.ofNat (l + 1))
def adV (V : hV) (l : Nat) (x : Int32) : hV := ad1 (ad1 (ad1 (ad1 V l (byK x 24)) (l + 1) (byK x (24 + -8))) (l + 2) (byK x (24 + -8 + -8))) (l + 3) (byK x (24 + -8 + -8 + -8))
def apV (V : hV) (l : Nat) (a b c d e : Int32) : hV := adV (adV (adV (adV (adV V l a) (l + 4) b) (l + 8) c) (l + 12) d) (l + 16) e
theorem ad1_4 {V : hV} {l : Nat} {y : Int32} : (ad1 V l y).1 65 4 = Int32.ofNat (l + 1) := up_eq _ _ _ _
theorem ad1_ne {V : hV} {l : Nat} {y : Int32} {a : Nat} (h1 : a ≠ 65) (h2 : a ≠ 66) : (ad1 V l y).1 a = V.1 a := (funext fun j => up_ne _ _ (Or.inl h1)).trans (funext fun j => up_ne _ _ (Or.inl h2))
theorem adV_4 {V : hV} {l : Nat} {x : Int32} : (adV V l x).1 65 4 = Int32.ofNat (l + 4) := ad1_4
theorem adV_ne {V : hV} {l : Nat} {x : Int32} {a : Nat} (h1 : a ≠ 65) (h2 : a ≠ 66) : (adV V l x).1 a = V.1 a := (ad1_ne h1 h2).trans ((ad1_ne h1 h2).trans ((ad1_ne h1 h2).trans (ad1_ne h1 h2)))
theorem apV_4 {V : hV} {l : Nat} {a b c d e : Int32} : (apV V l a b c d e).1 65 4 = Int32.ofNat (l + 20) := adV_4
theorem apV_ne {V : hV} {l : Nat} {a b c d e : Int32} {q : Nat} (h1 : q ≠ 65) (h2 : q ≠ 66) : (apV V l a b c d e).1 q = V.1 q := (adV_ne h1 h2).trans ((adV_ne h1 h2).trans ((adV_ne h1 h2).trans ((adV_ne h1 h2).trans (adV_ne h1 h2))))
theorem s_four {S : ww_S} {sh : List mm_C} {V : hV} {l : Nat} (h0 : kSrc sh) (hl : V.1 65 4 = Int32.ofNat l) (h6 : l + 4 ≤ 600) {x : Int32} : EV S 2 64 [.ref 65, .int x] (hH sh V) (.inl none) (hH sh (adV V l x)) := by
  have SP : ∀ (U : hV) (i : Nat) (y : Int32), i < 600 → EV S 1 157 [.ref 66, .int (Int32.ofNat i), .int y] (hH sh U) (.inl none) (hH sh (up U 66 i y)) := by
    intro U i y hi
    have E := s_put (S := S) (V := U) h0.2.1 (by decide) (i := Int32.ofNat i) (x := y)
    rw [putV_up hi (by decide)] at E
    exact E
  refine ev_qe P64 rfl ?_
  refine wp_bipush 24 k64_0 (by decide) ?_
  refine wp_istore_n (L1 := [_, _, _]) k64_2 rfl rfl ?_
  refine wp_iload_n k64_3 rfl rfl ?_
  refine wp_if_lt_F k64_4 (by decide) ?_
  refine wp_aload_n k64_7 rfl rfl ?_
  refine wq_getR k64_8 h0.1 rfl ?_
  refine wp_aload_n k64_11 rfl rfl ?_
  refine wp_getI k64_12 h0.1.h h0.1.o rfl (Int32.ofNat (l)) hl ?_
  refine wp_iload_n k64_15 rfl rfl ?_
  refine wp_iload_n k64_16 rfl rfl ?_
  refine wp_iushr k64_17 ?_
  refine wp_sipush 255 k64_18 (by decide) ?_
  refine wp_iand k64_21 ?_
  refine wp_csn (st2 := []) k64_22 (SP _ (l) _ (by omega)) (by decide) rfl rfl rfl (by decide) ?_
  refine wp_aload_n k64_25 rfl rfl ?_
  refine wp_dup k64_26 rfl ?_
  refine wp_getI k64_27 h0.1.h h0.1.o rfl (Int32.ofNat (l)) ((up_ne _ _ (Or.inl (by decide))).trans hl) ?_
  refine wp_iconst 1 k64_30 (by decide) ?_
  refine wp_iadd k64_31 ?_
  refine wp_cast (i_succ (l)) ?_
  refine wp_putI k64_32 h0.1.h h0.1.o rfl rfl rfl ?_
  refine wp_iinc (L1 := [_, _, _]) (-8) k64_35 rfl (by decide) rfl ?_
  refine wp_goto k64_38 ?_
  refine wp_iload_n k64_3 rfl rfl ?_
  refine wp_if_lt_F k64_4 (by decide) ?_
  refine wp_aload_n k64_7 rfl rfl ?_
  refine wq_getR k64_8 h0.1 rfl ?_
  refine wp_aload_n k64_11 rfl rfl ?_
  refine wp_getI k64_12 h0.1.h h0.1.o rfl (Int32.ofNat (l + 1)) (up_eq _ _ _ _) ?_
  refine wp_iload_n k64_15 rfl rfl ?_
  refine wp_iload_n k64_16 rfl rfl ?_
  refine wp_iushr k64_17 ?_
  refine wp_sipush 255 k64_18 (by decide) ?_
  refine wp_iand k64_21 ?_
  refine wp_csn (st2 := []) k64_22 (SP _ (l + 1) _ (by omega)) (by decide) rfl rfl rfl (by decide) ?_
  refine wp_aload_n k64_25 rfl rfl ?_
  refine wp_dup k64_26 rfl ?_
  refine wp_getI k64_27 h0.1.h h0.1.o rfl (Int32.ofNat (l + 1)) ((up_ne _ _ (Or.inl (by decide))).trans (up_eq _ _ _ _)) ?_
  refine wp_iconst 1 k64_30 (by decide) ?_
  refine wp_iadd k64_31 ?_
  refine wp_cast (i_succ (l + 1)) ?_
  refine wp_putI k64_32 h0.1.h h0.1.o rfl rfl rfl ?_
  refine wp_iinc (L1 := [_, _, _]) (-8) k64_35 rfl (by decide) rfl ?_
  refine wp_goto k64_38 ?_
  refine wp_iload_n k64_3 rfl rfl ?_
  refine wp_if_lt_F k64_4 (by decide) ?_
  refine wp_aload_n k64_7 rfl rfl ?_
  refine wq_getR k64_8 h0.1 rfl ?_
  refine wp_aload_n k64_11 rfl rfl ?_
  refine wp_getI k64_12 h0.1.h h0.1.o rfl (Int32.ofNat (l + 1 + 1)) (up_eq _ _ _ _) ?_
  refine wp_iload_n k64_15 rfl rfl ?_
  refine wp_iload_n k64_16 rfl rfl ?_
  refine wp_iushr k64_17 ?_
  refine wp_sipush 255 k64_18 (by decide) ?_
  refine wp_iand k64_21 ?_
  refine wp_csn (st2 := []) k64_22 (SP _ (l + 1 + 1) _ (by omega)) (by decide) rfl rfl rfl (by decide) ?_
  refine wp_aload_n k64_25 rfl rfl ?_
  refine wp_dup k64_26 rfl ?_
  refine wp_getI k64_27 h0.1.h h0.1.o rfl (Int32.ofNat (l + 1 + 1)) ((up_ne _ _ (Or.inl (by decide))).trans (up_eq _ _ _ _)) ?_
  refine wp_iconst 1 k64_30 (by decide) ?_
  refine wp_iadd k64_31 ?_
  refine wp_cast (i_succ (l + 1 + 1)) ?_
  refine wp_putI k64_32 h0.1.h h0.1.o rfl rfl rfl ?_
  refine wp_iinc (L1 := [_, _, _]) (-8) k64_35 rfl (by decide) rfl ?_
  refine wp_goto k64_38 ?_
  refine wp_iload_n k64_3 rfl rfl ?_
  refine wp_if_lt_F k64_4 (by decide) ?_
  refine wp_aload_n k64_7 rfl rfl ?_
  refine wq_getR k64_8 h0.1 rfl ?_
  refine wp_aload_n k64_11 rfl rfl ?_
  refine wp_getI k64_12 h0.1.h h0.1.o rfl (Int32.ofNat (l + 1 + 1 + 1)) (up_eq _ _ _ _) ?_
  refine wp_iload_n k64_15 rfl rfl ?_
  refine wp_iload_n k64_16 rfl rfl ?_
  refine wp_iushr k64_17 ?_
  refine wp_sipush 255 k64_18 (by decide) ?_
  refine wp_iand k64_21 ?_
  refine wp_csn (st2 := []) k64_22 (SP _ (l + 1 + 1 + 1) _ (by omega)) (by decide) rfl rfl rfl (by decide) ?_
  refine wp_aload_n k64_25 rfl rfl ?_
  refine wp_dup k64_26 rfl ?_
  refine wp_getI k64_27 h0.1.h h0.1.o rfl (Int32.ofNat (l + 1 + 1 + 1)) ((up_ne _ _ (Or.inl (by decide))).trans (up_eq _ _ _ _)) ?_
  refine wp_iconst 1 k64_30 (by decide) ?_
  refine wp_iadd k64_31 ?_
  refine wp_cast (i_succ (l + 1 + 1 + 1)) ?_
  refine wp_putI k64_32 h0.1.h h0.1.o rfl rfl rfl ?_
  refine wp_iinc (L1 := [_, _, _]) (-8) k64_35 rfl (by decide) rfl ?_
  refine wp_goto k64_38 ?_
  refine wp_iload_n k64_3 rfl rfl ?_
  refine wp_if_lt_T k64_4 (by decide) ?_
  exact wp_retn k64_41 rfl rfl
theorem cw98 {S : ww_S} {sh : List mm_C} {V : hV} {l : Nat} (hW : WI sh) (hl : V.1 65 4 = Int32.ofNat l) (h6 : l ≤ 600) {p1 p2 p3 p4 p5 : Int32} : EVQ S 3 98 [.ref 64, .int p1, .int p2, .int p3, .int p4, .int p5] (hH sh V) (fun v g => (l ≤ 580 ∧ v = .inl (some (.int (Int32.ofNat (l + 20)))) ∧ g = hH sh (apV V l p1 p2 p3 p4 p5)) ∨ (580 < l ∧ v = .inr 17 ∧ g = hH sh V ++ [.inr (.inr (17, []))])) := by
  obtain ⟨q0, k0⟩ := hW.who
  refine ev_of P98 rfl ?_
  refine wp_aload_n k98_0 rfl rfl ?_
  refine wq_getR k98_1 k0.1 rfl ?_
  refine wp_getI k98_4 k0.2.1.2.1.1.h k0.2.1.2.1.1.o rfl (Int32.ofNat l) hl ?_
  refine wp_sipush 580 k98_7 (by decide) ?_
  by_cases h5 : l ≤ 580
  · refine wp_if_icmp_le_T k98_10 (i_nlt (k := 580) (n := l) h5 (by decide)) ?_
    refine wp_aload_n k98_21 rfl rfl ?_
    refine wq_getR k98_22 k0.1 rfl ?_
    refine wp_iload_n k98_25 rfl rfl ?_
    refine wp_cvn (st2 := []) k98_26 (s_four (S := S) (l := l + 0) k0.2.1.2.1 hl (by omega)) (by decide) rfl rfl rfl rfl (by decide) k0.2.1.2.1.1.o (by decide) ?_
    refine wp_aload_n k98_29 rfl rfl ?_
    refine wq_getR k98_30 k0.1 rfl ?_
    refine wp_iload_n k98_33 rfl rfl ?_
    refine wp_cvn (st2 := []) k98_34 (s_four (S := S) (l := l + 4) k0.2.1.2.1 adV_4 (by omega)) (by decide) rfl rfl rfl rfl (by decide) k0.2.1.2.1.1.o (by decide) ?_
    refine wp_aload_n k98_37 rfl rfl ?_
    refine wq_getR k98_38 k0.1 rfl ?_
    refine wp_iload_n k98_41 rfl rfl ?_
    refine wp_cvn (st2 := []) k98_42 (s_four (S := S) (l := l + 8) k0.2.1.2.1 adV_4 (by omega)) (by decide) rfl rfl rfl rfl (by decide) k0.2.1.2.1.1.o (by decide) ?_
    refine wp_aload_n k98_45 rfl rfl ?_
    refine wq_getR k98_46 k0.1 rfl ?_
    refine wp_iload k98_49 rfl rfl ?_
    refine wp_cvn (st2 := []) k98_51 (s_four (S := S) (l := l + 12) k0.2.1.2.1 adV_4 (by omega)) (by decide) rfl rfl rfl rfl (by decide) k0.2.1.2.1.1.o (by decide) ?_
    refine wp_aload_n k98_54 rfl rfl ?_
    refine wq_getR k98_55 k0.1 rfl ?_
    refine wp_iload k98_58 rfl rfl ?_
    refine wp_cvn (st2 := []) k98_60 (s_four (S := S) (l := l + 16) k0.2.1.2.1 adV_4 (by omega)) (by decide) rfl rfl rfl rfl (by decide) k0.2.1.2.1.1.o (by decide) ?_
    refine wp_aload_n k98_63 rfl rfl ?_
    refine wq_getR k98_64 k0.1 rfl ?_
    refine wp_getI k98_67 k0.2.1.2.1.1.h k0.2.1.2.1.1.o rfl (Int32.ofNat (l + 20)) adV_4 ?_
    exact wp_retI k98_70 rfl (Or.inl ⟨h5, rfl, rfl⟩)
  · refine wp_if_icmp_le_F k98_10 (i_lt (k := 580) (n := l) (by omega) (by omega)) ?_
    exact wp_thr k98_13 rfl rfl (Or.inr ⟨by omega, rfl, rfl⟩)
theorem cw99 {S : ww_S} {sh : List mm_C} {V : hV} {l : Nat} (hW : WI sh) (hl : V.1 65 4 = Int32.ofNat l) (h6 : l ≤ 600) {x : Int32} : EVQ S 1 99 [.ref 64, .int x] (hH sh V) (fun v g => (∃ (m : Nat) (s : List mm_C) (W : hV), m ≤ l ∧ x = Int32.ofNat m ∧ v = .inl (some (.int x)) ∧ g = hH s W ∧ FX 0 x sh V s W) ∨ ((x < 0 ∨ Int32.ofNat l < x) ∧ v = .inr 15 ∧ g = hH sh V ++ [.inr (.inr (15, []))])) := by
  obtain ⟨q0, k0⟩ := hW.who
  refine ev_of P99 rfl ?_
  refine wp_iload_n k99_0 rfl rfl ?_
  refine wp_if_lt k99_1 (fun c1 => ?_) (fun c1 => ?_)
  · exact wp_thr k99_15 rfl rfl (Or.inr ⟨Or.inl c1, rfl, rfl⟩)
  · refine wp_iload_n k99_4 rfl rfl ?_
    refine wp_aload_n k99_5 rfl rfl ?_
    refine wq_getR k99_6 k0.1 rfl ?_
    refine wp_getI k99_9 k0.2.1.2.1.1.h k0.2.1.2.1.1.o rfl (Int32.ofNat l) hl ?_
    refine wp_if_icmp_le k99_12 (fun c12 => ?_) (fun c12 => ?_)
    · obtain ⟨m, hm, he⟩ := nat_of (n := l + 1) c1 (by
        refine Int32.lt_iff_toInt_lt.mpr ?_
        have h1 : ¬ (Int32.ofNat l).toInt < x.toInt := fun q => c12 (Int32.lt_iff_toInt_lt.mpr q)
        rw [Int32.toInt_ofNat_of_lt (by omega)] at h1 ⊢
        omega) (by omega)
      refine wp_aload_n k99_23 rfl rfl ?_
      refine wq_getR k99_24 k0.1 rfl ?_
      refine wp_iload_n k99_27 rfl rfl ?_
      refine wp_putI k99_28 k0.2.1.2.1.1.h k0.2.1.2.1.1.o rfl rfl rfl ?_
      refine wp_iload_n k99_31 rfl rfl ?_
      exact wp_retI k99_32 rfl (Or.inl ⟨m, _, _, by omega, he, rfl, rfl, fx_len k0.2.1.2.1.1 x⟩)
    · exact wp_thr k99_15 rfl rfl (Or.inr ⟨Or.inr c12, rfl, rfl⟩)
end M49
