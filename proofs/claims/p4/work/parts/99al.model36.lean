section M36
/-! ===== the reference: what a person sees ===== -/
theorem inI_nat {x : Int32} {n : Nat} (hn : n ≤ 1000) (h : inI x 0 (Int32.ofNat n - 1) = true) : ∃ k : Nat, k < n ∧ x = Int32.ofNat k := by
  unfold inI at h
  obtain ⟨h1, h2⟩ := of_decide_eq_true h
  have h1 := Int32.le_iff_toInt_le.mp h1
  have h2 := Int32.le_iff_toInt_le.mp h2
  rw [Int32.toInt_zero] at h1
  have h3 : (Int32.ofNat n - 1).toInt = (n : Int) - 1 := by
    cases n with
    | zero => rfl
    | succ m =>
      rw [i_pred (by omega), show m + 1 - 1 = m by omega, Int32.toInt_ofNat_of_lt (by omega)]
      omega
  rw [h3] at h2
  refine ⟨x.toInt.toNat, by omega, Int32.toInt.inj ?_⟩
  rw [Int32.toInt_ofNat_of_lt (by omega)]
  omega
def paB (V : hV) (x : Int32) : Bool := inI x 0 (V.1 313 1 - 1)
def seeF (V : hV) (x : Int32) : Int32 := if paB V x = true then V.1 313 (150 + mm_un x) else 0
theorem e_seesPerson {S : ww_S} {sh : List mm_C} {V : hV} (hM : MS sh) {n : Nat} (hn : V.1 313 1 = Int32.ofNat n) (h5 : n ≤ 5) {x : Int32} : EV S 3 258 [.ref 312, .int x] (hH sh V) (.inl (some (.int (seeF V x)))) (hH sh (up V 312 6 (bI (!paB V x)))) := by
  refine ev_qe P258 rfl ?_
  by_cases hb : paB V x = true
  · have hs : seeF V x = V.1 313 (150 + mm_un x) := if_pos hb
    rw [hs]
    have hb2 := hb
    unfold paB at hb2
    rw [hn] at hb2
    obtain ⟨k, hk, he⟩ := inI_nat (by omega) hb2
    subst he
    rw [i_un (by omega)]
    refine wp_aload_n k258_0 rfl rfl ?_
    refine wp_aload_n k258_1 rfl rfl ?_
    refine wp_iload_n k258_2 rfl rfl ?_
    refine wp_cv (st2 := [_]) k258_3 (e_isPerson hM) (by decide) rfl rfl rfl rfl (by decide) hM.o (by decide) ?_
    refine wp_cv (st2 := []) k258_6 (e_passes hM) (by decide) rfl rfl rfl rfl (by decide) hM.o (by decide) ?_
    refine wp_if_eq_F k258_9 (bI_n0.mpr hb) ?_
    refine wp_aload_n k258_12 rfl rfl ?_
    refine wp_getR k258_13 (by decide) hM.o rfl ?_
    refine wp_sipush 150 k258_16 (by decide) ?_
    refine wp_iload_n k258_19 rfl rfl ?_
    refine wp_iadd k258_20 ?_
    refine wp_cast (show (150 : Int32) + Int32.ofNat (k) = Int32.ofNat (150 + k) from (Int32.ofNat_add 150 _).symm) ?_
    refine wp_iaload k258_21 (by decide) (hM.a313) (i_inO (by omega) (by decide)) (150 + k) (i_un (by omega)) (V.1 313 (150 + k)) (up_ne _ _ (Or.inl (by decide))) ?_
    refine wp_goto k258_22 ?_
    exact wp_reti k258_26 rfl rfl rfl
  · have hs : seeF V x = 0 := if_neg hb
    rw [hs]
    refine wp_aload_n k258_0 rfl rfl ?_
    refine wp_aload_n k258_1 rfl rfl ?_
    refine wp_iload_n k258_2 rfl rfl ?_
    refine wp_cv (st2 := [_]) k258_3 (e_isPerson hM) (by decide) rfl rfl rfl rfl (by decide) hM.o (by decide) ?_
    refine wp_cv (st2 := []) k258_6 (e_passes hM) (by decide) rfl rfl rfl rfl (by decide) hM.o (by decide) ?_
    refine wp_if_eq_T k258_9 (bI_0.mpr (Bool.eq_false_iff.mpr hb)) ?_
    refine wp_iconst 0 k258_25 (by decide) ?_
    exact wp_reti k258_26 rfl rfl rfl
end M36
