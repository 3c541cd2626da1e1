section M65
/-! ===== the output: it grows ===== -/
def gR (sh : List mm_C) (n a : Nat) : List mm_C := (sh ++ ([.inl (2, n, 0)] : List mm_C)).set (183 - 64) (.inr (.inr (1, [.ref a, .int 0, .int 0, .int 0])))
theorem capS_of {sh : List mm_C} {q cap : Nat} {r : List Value} {ci z : Nat} (h : sh[183 - 64]? = some (.inr (.inr (ci, .ref q :: r)))) (hq : sh[q - 64]? = some (.inl (2, cap, z))) : capS sh = cap := by
  unfold capS
  rw [h]
  dsimp only
  rw [hq]
theorem i_sub_le {a b : Nat} (h : a ≤ b) (hb : b < 2147483648) : ¬ 0 < Int32.ofNat a - Int32.ofNat b := by
  intro z
  have z := Int32.lt_iff_toInt_lt.mp z
  rw [Int32.toInt_sub, Int32.toInt_ofNat_of_lt (by omega), Int32.toInt_ofNat_of_lt (by omega), Int32.toInt_zero, Int.bmod_def] at z
  split at z <;> omega
theorem fx_grow {sh : List mm_C} {V : hV} {q cap c n : Nat} (hB : SBI sh V q cap c) (hl : 260 ≤ sh.length) (h1 : cap < n) (h3 : 2 * cap ≤ n) (h2 : n ≤ 100000) : FX 0 (V.1 65 4) sh V (gR sh n (64 + sh.length)) (acp (clr V (64 + sh.length)) q 0 (64 + sh.length) 0 cap) ∧ SBI (gR sh n (64 + sh.length)) (acp (clr V (64 + sh.length)) q 0 (64 + sh.length) 0 cap) (64 + sh.length) n c := by
  have hlt := hB.lt
  have g : ∀ i, i < sh.length → i ≠ 183 - 64 → (gR sh n (64 + sh.length))[i]? = sh[i]? := by
    intro i h4 h5
    unfold gR
    rw [List.getElem?_set_ne (fun z => h5 z.symm), List.getElem?_append_left h4]
  have gn : (gR sh n (64 + sh.length))[64 + sh.length - 64]? = some (.inl (2, n, 0)) := by
    unfold gR
    rw [List.getElem?_set_ne (by omega)]
    exact ap_get sh [.inl (2, n, 0)] 0
  have g183 : (gR sh n (64 + sh.length))[183 - 64]? = some (.inr (.inr (1, [.ref (64 + sh.length), .int 0, .int 0, .int 0]))) := List.getElem?_set_self (by rw [List.length_append]; omega)
  have hln : (gR sh n (64 + sh.length)).length = sh.length + 1 := by
    unfold gR
    rw [List.length_set, List.length_append]
    rfl
  have hv : ∀ b, b ≠ 64 + sh.length → (acp (clr V (64 + sh.length)) q 0 (64 + sh.length) 0 cap).1 b = V.1 b ∧ (acp (clr V (64 + sh.length)) q 0 (64 + sh.length) 0 cap).2 b = V.2 b := by
    intro b hb
    refine ⟨?_, ?_⟩
    · funext j
      unfold acp clr
      dsimp only
      rw [if_neg hb, if_neg hb]
    · unfold acp clr
      dsimp only
      rw [if_neg hb]
  have hs : SBI (gR sh n (64 + sh.length)) (acp (clr V (64 + sh.length)) q 0 (64 + sh.length) 0 cap) (64 + sh.length) n c := by
    refine ⟨by omega, Or.inr (by omega), by omega, g183, gn, (congrFun (hv 183 (by omega)).1 1).trans hB.cd, (congrFun (hv 183 (by omega)).1 3).trans hB.n, by have := hB.le; omega, ⟨by have := hB.l; omega, h2⟩, fun j => ?_⟩
    show isB _
    unfold acp clr
    dsimp only
    rw [if_pos rfl]
    split
    · rw [if_neg (by omega)]
      exact hB.b _
    · rw [if_pos rfl]
      show (0 : Int32).toInt8.toInt32 = 0
      decide
  have e : EX sh (gR sh n (64 + sh.length)) := by
    intro i c2 h hn
    by_cases hi : i = 183 - 64
    · subst hi
      rw [hB.o] at h
      cases h
      exact absurd (show true = false from hn) (by decide)
    · rw [g i (List.getElem?_eq_some_iff.mp h).1 hi]
      exact h
  refine ⟨⟨congrFun (hv 65 (by omega)).1 4, fun b h4 h5 => ⟨g (b - 64) (by omega) (by omega), hv b (by omega)⟩, e, fun hW => ?_, fun hc => ?_, fun _ => ⟨_, _, _, hs⟩, ?_, ?_⟩, hs⟩
  · refine ⟨hW.1.ex e rfl rfl, hW.2.1.ex e, hW.2.2.1.ex e, hW.2.2.2.1.ex e, e _ _ hW.2.2.2.2.1 rfl, fun b hb => ?_⟩
    obtain ⟨p, hp⟩ := hW.2.2.2.2.2 b hb
    have h64 := hp.1.h
    have hne := hp.1.2.2.1
    have hbl := (List.getElem?_eq_some_iff.mp hp.1.o).1
    exact ⟨p, ⟨hp.1.1, hp.1.2.1, hp.1.2.2.1, (g (b - 64) hbl (by omega)).trans hp.1.o⟩, hp.2.1.ex e, hp.2.2.1.ex e, hp.2.2.2.1.ex e, hp.2.2.2.2.ex e⟩
  · intro p fs h64 hp
    have hpl := (List.getElem?_eq_some_iff.mp hp).1
    rw [hln] at hpl
    by_cases h5 : p = 64 + sh.length
    · subst h5
      rw [gn] at hp
      cases hp
    · by_cases h6 : p = 183
      · subst h6
        rw [g183] at hp
        cases hp
      · rw [g (p - 64) (by omega) (by omega)] at hp
        rw [congrFun (hv p h5).1 1]
        exact hc p fs h64 hp
  · rw [hln, capS_of hB.o hB.s, capS_of g183 gn]
    omega
  · rw [capS_of hB.o hB.s, capS_of g183 gn]
    have e1 : shS (gR sh n (64 + sh.length)) = shS (sh ++ [.inl (2, n, 0)]) := by
      unfold gR
      exact shS_set (ap_old hB.o) rfl
    have e2 : shS (sh ++ [.inl (2, n, 0)]) = shS sh + n := by
      unfold shS
      rw [List.map_append, List.sum_append]
      rfl
    rw [e1, e2]
    omega
theorem e_ensure {S : ww_S} {sh : List mm_C} {V : hV} {q cap c n : Nat} (hB : SBI sh V q cap c) (hl : 260 ≤ sh.length) (h2 : n ≤ 2 * cap + 2) (h3 : n ≤ 49000) : ∃ sh' W q' cap', EV S 3 344 [.ref 183, .int (Int32.ofNat n)] (hH sh V) (.inl none) (hH sh' W) ∧ SBI sh' W q' cap' c ∧ n ≤ cap' ∧ FX 0 (V.1 65 4) sh V sh' W ∧ sh.length ≤ sh'.length ∧ cap ≤ cap' := by
  have hm := hB.m
  by_cases hn : n ≤ cap
  · refine ⟨sh, V, q, cap, ev_qe P344 rfl ?_, hB, hn, fx_0 sh V, Nat.le_refl _, Nat.le_refl _⟩
    refine wp_aload_n k344_0 rfl rfl ?_
    refine wp_getR k344_1 (by decide) hB.o rfl ?_
    refine wp_alen k344_4 rfl hB.q64 hB.s ?_
    refine wp_aload_n k344_5 rfl rfl ?_
    refine wp_getI k344_6 (by decide) hB.o rfl _ hB.cd ?_
    refine wp_ishr k344_9 ?_
    refine wp_cast (sr0 _) ?_
    refine wp_istore_n (L1 := [_, _, _]) k344_10 rfl rfl ?_
    refine wp_iload_n k344_11 rfl rfl ?_
    refine wp_iload_n k344_12 rfl rfl ?_
    refine wp_isub k344_13 ?_
    refine wp_if_le_T k344_14 (i_sub_le hn (by omega)) ?_
    exact wp_retn k344_38 rfl rfl
  · obtain ⟨hF, hs⟩ := fx_grow (n := 2 * cap + 2) hB hl (by omega) (by omega) (by omega)
    refine ⟨_, _, _, _, ev_qe P344 rfl ?_, hs, h2, hF, ?_, by omega⟩
    · refine wp_aload_n k344_0 rfl rfl ?_
      refine wp_getR k344_1 (by decide) hB.o rfl ?_
      refine wp_alen k344_4 rfl hB.q64 hB.s ?_
      refine wp_aload_n k344_5 rfl rfl ?_
      refine wp_getI k344_6 (by decide) hB.o rfl _ hB.cd ?_
      refine wp_ishr k344_9 ?_
      refine wp_cast (sr0 _) ?_
      refine wp_istore_n (L1 := [_, _, _]) k344_10 rfl rfl ?_
      refine wp_iload_n k344_11 rfl rfl ?_
      refine wp_iload_n k344_12 rfl rfl ?_
      refine wp_isub k344_13 ?_
      refine wp_cast (i_subN (by omega)) ?_
      refine wp_if_le_F k344_14 (i_lt (k := 0) (by omega) (by omega)) ?_
      refine wp_aload_n k344_17 rfl rfl ?_
      refine wp_aload_n k344_18 rfl rfl ?_
      refine wp_getR k344_19 (by decide) hB.o rfl ?_
      refine wp_aload_n k344_22 rfl rfl ?_
      refine wp_iload_n k344_23 rfl rfl ?_
      refine wp_cv (st2 := [_, _]) k344_24 (e_newcap hB (by omega) h2) (by decide) rfl rfl rfl rfl (by decide) hB.o (by decide) ?_
      refine wp_aload_n k344_27 rfl rfl ?_
      refine wp_getI k344_28 (by decide) hB.o rfl _ hB.cd ?_
      refine wp_ishl k344_31 ?_
      refine wp_cast (sh0 _) ?_
      refine wp_cs (st2 := [_]) k344_32 (e_copyof hB (by omega) (by omega)) (by decide) rfl rfl rfl (by decide) ?_
      refine wp_putR k344_35 (by decide) (ap_old hB.o) rfl rfl rfl ?_
      exact wp_retn k344_38 rfl (by unfold gR; rfl)
    · unfold gR
      rw [List.length_set, List.length_append]
      omega
end M65
