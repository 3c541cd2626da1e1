/-! ===== every run of the law: from the entry to its end with 1 ===== -/
theorem mw_run {E : my_E} {xs : Nat → Int32} {L : Nat} (hE : my_Ok E (mw_xs xs) (mm_ext, (L, fun j => some (xs j)), mm_stc, mm_fty)) (hA : mf_A E.1 = true) (hO : mf_ok E = true) :
    ∃ n L' h', mm_exe (mm_ext, (L, fun j => some (xs j)), mm_stc, mm_fty) mm_P (mm_run (mm_ext, (L, fun j => some (xs j)), mm_stc, mm_fty) mm_P 1000000 60) mz_M n 0 (mm_entry 9 [.ref 0]) [] [] = some (.inl (2260, L', [.int 1]), h') ∧ h'.length ≤ 600002 ∧ mm_sum h' ≤ 7302232 := by
  unfold mf_A at hA
  split at hA
  · rename_i pc L0 st g he
    obtain ⟨b1, b2⟩ := mf_b1 hA
    obtain ⟨b2, b3⟩ := mf_b1 b2
    obtain ⟨b3, b4⟩ := mf_b1 b3
    have b1 := Nat.beq_eq.mp b1
    have b2 := of_decide_eq_true b2
    have b3 := of_decide_eq_true b3
    have b4 := mf_qH_eq b4
    subst b1 b2 b3 b4
    obtain ⟨h1, e1, R1⟩ := mf_pre_ok (mf_run_ok 60) 13 (0, mm_entry 9 [.ref 0], [], (mf_e9, (0, 0))) [] _ ⟨rfl, rfl, fun k => by rw [List.getElem?_nil]; exact mf_e9_g k⟩ he
    have hE0 : my_Ok (mf_E0 E.1) (mw_xs xs) (mm_ext, (L, fun j => some (xs j)), mm_stc, mm_fty) := mw_Ok0 E.1 _ _
    obtain ⟨L1, st1, h1', r1, r2, r3, r4⟩ := my_pre_ok (X := mz_X) (X' := (mm_ext, (L, fun j => some (xs j)), mm_stc, mm_fty)) (P := mm_P) (callee' := mm_run (mm_ext, (L, fun j => some (xs j)), mm_stc, mm_fty) mm_P 1000000 60) rfl rfl mw_Xt (fun _ => rfl) hE0 (my_run_ok (X := mz_X) (X' := (mm_ext, (L, fun j => some (xs j)), mm_stc, mm_fty)) (P := mm_P) rfl rfl mw_Xt (fun _ => rfl) hE0 1000000 60) 13 (0, mm_entry 9 [.ref 0], [], []) (mm_entry 9 [.ref 0]) [] [] _ trivial (my_entry (show my_sr (mf_E0 E.1).1 (mw_xs xs) [.ref 0] [.ref 0] from ⟨rfl, trivial⟩) 9) trivial e1
    unfold mf_ok at hO
    split at hO
    · rename_i pc9 L9 z g9 he9
      obtain ⟨c1, c2⟩ := mf_b1 hO
      obtain ⟨c2, c3⟩ := mf_b1 c2
      obtain ⟨c3, c4⟩ := mf_b1 c3
      have c1 := Nat.beq_eq.mp c1
      have c2 := (mm_eq_iff _ _).mp c2
      have c3 := Nat.le_of_ble_eq_true c3
      have c4 := Nat.le_of_ble_eq_true c4
      subst c1 c2
      obtain ⟨h2, e2, R2⟩ := mf_exe_ok (mf_run_ok 60) 100000 23 mf_L0 [] mf_h0 h1 _ _ R1 he9
      obtain ⟨r', h2', e3, e4, e5⟩ := my_exe_ok (X := mz_X) (X' := (mm_ext, (L, fun j => some (xs j)), mm_stc, mm_fty)) (P := mm_P) (callee' := mm_run (mm_ext, (L, fun j => some (xs j)), mm_stc, mm_fty) mm_P 1000000 60) rfl rfl mw_Xt (fun _ => rfl) hE (my_run_ok (X := mz_X) (X' := (mm_ext, (L, fun j => some (xs j)), mm_stc, mm_fty)) (P := mm_P) rfl rfl mw_Xt (fun _ => rfl) hE 1000000 60) 100000 23 mf_L0 [] h1 L1 st1 h1' _ h2 r1 r2 r3 e2
      obtain ⟨L', st', rfl, g1, g2⟩ := e4
      obtain ⟨q, rfl, g3⟩ := my_cI g2
      cases q with
      | cons _ _ => exact g3.elim
      | nil =>
        refine ⟨100000 + 13, L', h2', ?_, ?_, ?_⟩
        · rw [← e3]
          exact r4 100000
        · rw [my_fr_len e5, R2.1]
          exact c3
        · rw [my_sum e5, R2.2.1]
          exact c4
    · cases hO
  · cases hA
theorem mw_all {xs : Nat → Int32} {L : Nat} (hL : L ≤ 6) (hA : ∀ md, mf_A md = true) (h0 : (List.range 6).all (fun L => mf_ok (true, [], [], [], some L)) = true) (ops : List mz_O) (hops : ops.all mf_op = true) (hin : (List.range 64).all (fun n => ops.any (fun o => Nat.beq o.1 n && (Nat.ble o.2.2.2.length 5 && (!o.2.2.1 || decide (o.2.2.2 = [3]))))) = true) :
    ∃ n L' h', mm_exe (mm_ext, (L, fun j => some (xs j)), mm_stc, mm_fty) mm_P (mm_run (mm_ext, (L, fun j => some (xs j)), mm_stc, mm_fty) mm_P 1000000 60) mz_M n 0 (mm_entry 9 [.ref 0]) [] [] = some (.inl (2260, L', [.int 1]), h') ∧ h'.length ≤ 600002 ∧ mm_sum h' ≤ 7302232 := by
  by_cases h6 : L < 6
  · exact mw_run (mw_OkL true xs L) (hA true) (List.all_eq_true.mp h0 L (List.mem_range.mpr h6))
  · have h6 : L = 6 := by omega
    subst h6
    have hlt : mm_un (xs 0 &&& 63) < 64 := by
      rw [mm_un_bv]
      show (((xs 0).toBitVec &&& (63 : Int32).toBitVec).toNat) < 64
      rw [BitVec.toNat_and]
      exact Nat.lt_of_le_of_lt Nat.and_le_right (by decide)
    obtain ⟨o, ho, hb⟩ := List.any_eq_true.mp (List.all_eq_true.mp hin _ (List.mem_range.mpr hlt))
    obtain ⟨b1, b2⟩ := mf_b1 hb
    obtain ⟨b2, b3⟩ := mf_b1 b2
    have b1 := Nat.beq_eq.mp b1
    have b2 := Nat.le_of_ble_eq_true b2
    obtain ⟨op, md, pers, ks⟩ := o
    dsimp only at b1 b2 b3
    have hp : pers = true → ks = [3] := by
      intro e
      rw [e] at b3
      exact of_decide_eq_true b3
    have hO := List.all_eq_true.mp hops _ ho
    have hO := List.all_eq_true.mp (show (mz_all ks).all (fun cs => mf_ok (mz_E md pers op cs)) = true from hO) (mw_pick xs 1 ks) (mw_pick_mem xs ks 1)
    exact mw_run (mw_Ok b2 xs (by rw [b1, mw_of]) hp) (hA md) hO
