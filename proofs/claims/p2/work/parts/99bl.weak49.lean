section M49
/-! ===== the class: a new scene; readText; append, truncate ===== -/
theorem wp_obj {S : ww_S} {D : Nat} {M : mm_M} {pc p9 nx : Nat} {L : mm_L} {st : List Value} {h : mm_H} {Q : mm_V → mm_H → Prop} {u a : Nat} {r : List Nat} (hk : mm_lk M.1 pc = some (p9, .invokespecial u, nx, 9 :: r)) (ha : 64 ≤ a) (hb : Nat.ble st.length 4 = true) (w : WP S D M nx L st h Q) : WP S D M pc L (.ref a :: st) h Q := wp_go hk (by simp only [mm_stp]; rw [Nat.ble_eq_true_of_le ha, hb]; rfl) w
theorem h0_of {fs : List Value} (h : fs.all (fun v => match v with
  | .int z => decide (z = 0)
  | _ => true) = true) : ∀ v ∈ fs, ∀ z, v = .int z → z = 0 := fun v hv z e => by
  have h2 := List.all_eq_true.mp h v hv
  subst e
  exact of_decide_eq_true h2
theorem ap_set (sh l : List mm_C) (k : Nat) (x : mm_C) : (sh ++ l).set (64 + sh.length + k - 64) x = sh ++ l.set k x := by
  rw [show 64 + sh.length + k - 64 = sh.length + k by omega, List.set_append, if_neg (by omega), Nat.add_sub_cancel_left]
theorem ap_get (sh l : List mm_C) (k : Nat) : (sh ++ l)[64 + sh.length + k - 64]? = l[k]? := by
  rw [show 64 + sh.length + k - 64 = sh.length + k by omega, List.getElem?_append_right (Nat.le_add_right _ _), Nat.add_sub_cancel_left]
def nm0 : mm_C := .inr (.inr (7, [.null, .int 0]))
def nm1 (n : Nat) : mm_C := .inr (.inr (7, [.ref (n + 1), .int 0]))
def ar5 : mm_C := .inl (0, 5, 0)
theorem e_names {S : ww_S} {sh : List mm_C} {V : hV} {n : Nat} (hn : n = 64 + sh.length) : EV S 1 48 [.ref n, .int 5] (hH (sh ++ [nm0]) V) (.inl none) (hH (sh ++ [nm1 n, ar5]) (clr V (n + 1))) := by
  subst hn
  refine ev_qe P48 rfl ?_
  refine wp_aload_n k48_0 rfl rfl ?_
  refine wp_obj k48_1 (by omega) rfl ?_
  refine wp_aload_n k48_4 rfl rfl ?_
  refine wp_iload_n k48_5 rfl rfl ?_
  refine wp_iconst 0 k48_6 (by decide) ?_
  refine wp_max k48_7 rfl ?_
  refine wp_cast (show (if (5 : Int32) < 0 then (0 : Int32) else 5) = Int32.ofNat 5 from by decide) ?_
  refine wp_newarr (a := 64 + sh.length + 1) k48_10 (by decide) (by simp only [List.length_append, List.length_cons, List.length_nil]; omega) ?_
  rw [List.append_assoc]
  refine wp_putR (a := 64 + sh.length + 0) k48_12 (by omega) (ap_get sh _ 0) rfl rfl rfl ?_
  refine wp_retn k48_15 rfl ?_
  rw [ap_set]
  rfl
def sc0 : mm_C := .inr (.inr (10, [.null, .null, .null, .int 0, .int 0, .int 0]))
def scL (a : Nat) : List mm_C := [.inr (.inr (10, [.ref (a + 1), .ref (a + 3), .ref (a + 5), .int 0, .int 0, .int 0])), nm1 (a + 1), ar5, nm1 (a + 3), ar5, ar5]
def scV (V : hV) (a : Nat) : hV := up (clr (clr (clr (clr (clr V (a + 1)) (a + 2)) (a + 3)) (a + 4)) (a + 5)) a 5 (-1)
theorem e_scene {S : ww_S} {sh : List mm_C} {V : hV} {a : Nat} (ha : a = 64 + sh.length) : EV S 2 61 [.ref a] (hH (sh ++ [sc0]) V) (.inl none) (hH (sh ++ scL a) (scV V a)) := by
  subst ha
  have N1 := e_names (S := S) (sh := sh ++ [sc0]) (V := clr V (64 + sh.length + 1)) (n := 64 + sh.length + 1) (by simp only [List.length_append, List.length_cons, List.length_nil]; omega)
  refine ev_qe P61 rfl ?_
  refine wp_aload_n k61_0 rfl rfl ?_
  refine wp_obj k61_1 (by omega) rfl ?_
  refine wp_aload_n k61_4 rfl rfl ?_
  refine wp_new (a := 64 + sh.length + 1) (fs := [.null, .int 0]) k61_5 (by simp only [List.length_append, List.length_cons, List.length_nil]; omega) rfl (h0_of rfl) ?_
  refine wp_dup k61_8 rfl ?_
  refine wp_iconst 5 k61_9 (by decide) ?_
  refine wp_cin (st2 := [_, _]) k61_10 N1 (by decide) rfl rfl rfl rfl (by omega) (by decide) ?_
  rw [List.append_assoc]
  refine wp_putR (a := 64 + sh.length + 0) k61_13 (by omega) (ap_get sh _ 0) rfl rfl rfl ?_
  rw [ap_set]
  refine wp_aload_n k61_16 rfl rfl ?_
  have N2 := e_names (S := S) (sh := sh ++ [.inr (.inr (10, [.ref (64 + sh.length + 1), .null, .null, .int 0, .int 0, .int 0])), nm1 (64 + sh.length + 1), ar5]) (V := clr (clr (clr V (64 + sh.length + 1)) (64 + sh.length + 1 + 1)) (64 + sh.length + 3)) (n := 64 + sh.length + 3) (by simp only [List.length_append, List.length_cons, List.length_nil]; omega)
  refine wp_new (a := 64 + sh.length + 3) (fs := [.null, .int 0]) k61_17 (by simp only [List.length_append, List.length_cons, List.length_nil, List.length_set]; omega) rfl (h0_of rfl) ?_
  refine wp_dup k61_20 rfl ?_
  refine wp_iconst 5 k61_21 (by decide) ?_
  refine wp_cin (st2 := [_, _]) k61_22 N2 (by decide) rfl rfl rfl rfl (by omega) (by decide) ?_
  rw [List.append_assoc]
  refine wp_putR (a := 64 + sh.length + 0) k61_25 (by omega) (ap_get sh _ 0) rfl rfl rfl ?_
  rw [ap_set]
  refine wp_aload_n k61_28 rfl rfl ?_
  refine wp_iconst 5 k61_29 (by decide) ?_
  refine wp_cast (show (5 : Int32) = Int32.ofNat 5 from rfl) ?_
  refine wp_newarr (a := 64 + sh.length + 5) k61_30 (by decide) (by simp only [List.length_append, List.length_cons, List.length_nil, List.length_set]; omega) ?_
  rw [List.append_assoc]
  refine wp_putR (a := 64 + sh.length + 0) k61_32 (by omega) (ap_get sh _ 0) rfl rfl rfl ?_
  rw [ap_set]
  refine wp_aload_n k61_35 rfl rfl ?_
  refine wp_iconst (-1) k61_36 (by decide) ?_
  refine wp_putI (a := 64 + sh.length + 0) (fs := [.ref (64 + sh.length + 1), .ref (64 + sh.length + 3), .ref (64 + sh.length + 5), .int 0, .int 0, .int 0]) k61_37 (by omega) (ap_get sh _ 0) rfl rfl rfl ?_
  exact wp_retn k61_40 rfl rfl
theorem sc_ex (sh l : List mm_C) : EX sh (sh ++ l) := fun a c h _ => by
  rw [List.getElem?_append_left (List.getElem?_eq_some_iff.mp h).1]
  exact h
theorem ap_old {sh l : List mm_C} {i : Nat} {c : mm_C} (h : sh[i]? = some c) : (sh ++ l)[i]? = some c := by
  rw [List.getElem?_append_left (List.getElem?_eq_some_iff.mp h).1]
  exact h
/-- how a new scene stands to what was there; the heap has more than 260 cells -/
theorem sc_fx {sh : List mm_C} {V : hV} (hl : 260 ≤ sh.length) (hW : WI sh) : kScene (sh ++ scL (64 + sh.length)) (64 + sh.length) ∧ FX 6 (V.1 65 4) sh V (sh ++ scL (64 + sh.length)) (scV (clr V (64 + sh.length)) (64 + sh.length)) := by
  have e := sc_ex sh (scL (64 + sh.length))
  have g := ap_get sh (scL (64 + sh.length))
  have hv : ∀ b, b < 64 + sh.length → (scV (clr V (64 + sh.length)) (64 + sh.length)).1 b = V.1 b ∧ (scV (clr V (64 + sh.length)) (64 + sh.length)).2 b = V.2 b := by
    intro b hb
    refine ⟨?_, ?_⟩
    · funext j
      refine (up_ne _ _ (Or.inl (by omega))).trans ?_
      unfold clr
      dsimp only
      rw [if_neg (by omega), if_neg (by omega), if_neg (by omega), if_neg (by omega), if_neg (by omega), if_neg (by omega)]
    · unfold scV clr up
      dsimp only
      rw [if_neg (by omega), if_neg (by omega), if_neg (by omega), if_neg (by omega), if_neg (by omega), if_neg (by omega)]
  have hA : ∀ k, (scL (64 + sh.length))[k]? = some ar5 → kA (sh ++ scL (64 + sh.length)) (64 + sh.length + k) 5 := fun k h => ⟨by omega, by omega, by omega, (g k).trans h⟩
  have hN : ∀ k, (scL (64 + sh.length))[k]? = some (nm1 (64 + sh.length + k)) → (scL (64 + sh.length))[k + 1]? = some ar5 → kNames (sh ++ scL (64 + sh.length)) (64 + sh.length + k) := fun k h h2 => ⟨⟨⟨by omega, fun _ => by omega⟩, by omega, by omega, (g k).trans h⟩, hA (k + 1) h2⟩
  refine ⟨⟨⟨⟨by omega, fun _ => by omega⟩, by omega, by omega, g 0⟩, hN 1 rfl rfl, hN 3 rfl rfl, hA 5 rfl⟩, (congrFun (hv 65 (by omega)).1 4), fun b h1 h2 => ⟨?_, hv b (by omega)⟩, e, fun _ => ?_, fun hc => ?_, fun hb => ?_, ?_⟩
  · rw [List.getElem?_append_left (by omega)]
  · refine ⟨hW.1.ex e rfl rfl, hW.2.1.ex e, hW.2.2.1.ex e, hW.2.2.2.1.ex e, e _ _ hW.2.2.2.2.1 rfl, fun b hb => ?_⟩
    obtain ⟨q, hq⟩ := hW.2.2.2.2.2 b hb
    exact ⟨q, ⟨hq.1.1, hq.1.2.1, hq.1.2.2.1, ap_old hq.1.o⟩, hq.2.1.ex e, hq.2.2.1.ex e, hq.2.2.2.1.ex e, hq.2.2.2.2.ex e⟩
  · intro q fs h64 hq
    by_cases hlt : q - 64 < sh.length
    · rw [List.getElem?_append_left hlt] at hq
      rw [congrFun (hv q (by omega)).1 1]
      exact hc q fs h64 hq
    · obtain ⟨k, hk⟩ : ∃ k, q = 64 + sh.length + k := ⟨q - (64 + sh.length), by omega⟩
      subst hk
      rw [g k] at hq
      have h6 : k < 6 := (List.getElem?_eq_some_iff.mp hq).1
      obtain rfl | rfl | rfl | rfl | rfl | rfl : k = 0 ∨ k = 1 ∨ k = 2 ∨ k = 3 ∨ k = 4 ∨ k = 5 := by omega
      · cases hq
      · refine ⟨0, by decide, (up_ne _ _ (Or.inl (by omega))).trans ?_⟩
        unfold clr
        dsimp only
        rw [if_neg (by omega), if_neg (by omega), if_neg (by omega), if_neg (by omega), if_pos rfl]
        rfl
      · cases hq
      · refine ⟨0, by decide, (up_ne _ _ (Or.inl (by omega))).trans ?_⟩
        unfold clr
        dsimp only
        rw [if_neg (by omega), if_neg (by omega), if_pos rfl]
        rfl
      · cases hq
      · cases hq
  · obtain ⟨q, cap, c, h1, h2, h3, h4, h5, h6, h7, h8⟩ := hb
    have h183 := (hv 183 (by omega)).1
    exact ⟨q, cap, c, h1, h2, h3, ap_old h4, ap_old h5, by rw [h183]; exact h6, by rw [h183]; exact h7, h8⟩
  · have hcap : capS (sh ++ scL (64 + sh.length)) = capS sh := by
      unfold capS
      rw [List.getElem?_append_left (show 183 - 64 < sh.length by omega)]
      split
      · rename_i x p y hx
        by_cases hp : p - 64 < sh.length
        · rw [List.getElem?_append_left hp]
        · exact absurd hp (SBnew hW hx)
      · rfl
    refine ⟨?_, ?_⟩
    · rw [hcap, List.length_append]
      show sh.length + 6 + capS sh ≤ sh.length + capS sh + 6
      omega
    · rw [hcap]
      unfold shS
      rw [List.map_append, List.sum_append]
      show _ + 25 + _ ≤ _
      omega
end M49
