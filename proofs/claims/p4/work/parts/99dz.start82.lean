section M82
/-! ===== the heap behind both constructors ===== -/
def st_z (v : Value) : Value := match v with
  | .int _ => .int 0
  | v => v
def st_sh (c : mm_C) : mm_C := match c with
  | .inl (t, n, _) => .inl (t, n, 0)
  | .inr (.inl q) => .inr (.inl q)
  | .inr (.inr (ci, fs)) => .inr (.inr (ci, fs.map st_z))
def st_f (c : mm_C) (j : Nat) : Int32 := match c with
  | .inl (_, _, N) => Int32.ofNat (mm_ag 32 N j)
  | .inr (.inl _) => 0
  | .inr (.inr (_, fs)) => match fs[j]? with
    | some (.int z) => z
    | _ => 0
def st_N (c : mm_C) : Nat := match c with
  | .inl (_, _, N) => N
  | _ => 0
def st_ok (c : mm_C) : Bool := match c with
  | .inl (t, n, N) => my_nt (.inl (t, n, N)) && Nat.ble (N + 1) (2 ^ (32 * n))
  | _ => true
theorem ag_hi {N n i : Nat} (h : N + 1 ≤ 2 ^ (32 * n)) (hi : n ≤ i) : mm_ag 32 N i = 0 := by
  unfold mm_ag
  rw [Nat.shiftRight_eq_div_pow, Nat.div_eq_of_lt]
  exact Nat.lt_of_lt_of_le h (Nat.pow_le_pow_right (by decide) (Nat.mul_le_mul_left 32 hi))
theorem ag_lt (N i : Nat) : mm_ag 32 N i < 4294967296 := by
  unfold mm_ag
  exact Nat.mod_lt _ (by decide)
theorem st_he {N n : Nat} (h : N + 1 ≤ 2 ^ (32 * n)) : he_n (fun j => Int32.ofNat (mm_ag 32 N j)) n = N := by
  refine he_ext fun i => ?_
  rw [he_ag]
  by_cases c : i < n
  · rw [if_pos c, i_un (ag_lt N i)]
  · rw [if_neg c, ag_hi h (by omega)]
theorem st_hz (ci : Nat) (fs : List Value) : hz (st_f (.inr (.inr (ci, fs)))) 0 (fs.map st_z) = fs := by
  refine List.ext_getElem? fun i => ?_
  rw [hz_get, List.getElem?_map]
  cases h : fs[i]? with
  | none => rfl
  | some v =>
    cases v with
    | int z =>
      show some (Value.int (match fs[0 + i]? with
        | some (.int z) => z
        | _ => 0)) = _
      rw [Nat.zero_add, h]
    | _ => rfl
theorem st_hc {c : mm_C} (h : st_ok c = true) : hc (st_f c) (st_N c) (st_sh c) = c := by
  match c, h with
  | .inl (1, n, N), _ => rfl
  | .inl (0, n, N), h =>
    show Sum.inl (0, n, he_n (fun j => Int32.ofNat (mm_ag 32 N j)) n) = _
    have h : (my_nt (.inl (0, n, N)) && Nat.ble (N + 1) (2 ^ (32 * n))) = true := h
    rw [st_he (Nat.le_of_ble_eq_true (mf_b1 h).2)]
  | .inl (t + 2, n, N), h =>
    show Sum.inl (t + 2, n, he_n (fun j => Int32.ofNat (mm_ag 32 N j)) n) = _
    have h : (my_nt (.inl (t + 2, n, N)) && Nat.ble (N + 1) (2 ^ (32 * n))) = true := h
    rw [st_he (Nat.le_of_ble_eq_true (mf_b1 h).2)]
  | .inr (.inl q), _ => rfl
  | .inr (.inr (ci, fs)), _ =>
    show Sum.inr (Sum.inr (ci, hz (st_f (.inr (.inr (ci, fs)))) 0 (fs.map st_z))) = _
    rw [st_hz]
noncomputable def st_c (k : Nat) : mm_C := match mf_g9 mf_h0.1 k with
  | some c => c
  | none => .inl (0, 0, 0)
noncomputable def Sh0 : List mm_C := (List.range 260).map fun k => st_sh (st_c k)
noncomputable def Va0 : hV := (fun a => st_f (st_c (a - 64)), fun a => st_N (st_c (a - 64)))
set_option maxRecDepth 1000000 in
theorem st_all : (List.range 260).all (fun k => match mf_g9 mf_h0.1 k with
  | some c => st_ok c
  | none => false) = true := by decide +kernel
theorem st_k {k : Nat} (hk : k < 260) : ∃ c, mf_g9 mf_h0.1 k = some c ∧ st_ok c = true ∧ st_c k = c := by
  have h := List.all_eq_true.mp st_all k (List.mem_range.mpr hk)
  unfold st_c
  cases hc : mf_g9 mf_h0.1 k with
  | none =>
    rw [hc] at h
    cases h
  | some c =>
    rw [hc] at h
    exact ⟨c, rfl, h, rfl⟩
theorem Sh0_get {k : Nat} (hk : k < 260) : Sh0[k]? = some (st_sh (st_c k)) := by
  unfold Sh0
  rw [List.getElem?_map, List.getElem?_range hk]
  rfl
theorem Sh0_len : Sh0.length = 260 := by
  unfold Sh0
  rw [List.length_map, List.length_range]
theorem st_heap {h : mm_H} (R : mf_R mf_h0 h) : h = hH Sh0 Va0 := by
  have hl : h.length = 260 := R.1
  refine List.ext_getElem? fun k => ?_
  rw [hp_get]
  by_cases hk : k < 260
  · obtain ⟨c, h1, h2, h3⟩ := st_k hk
    rw [← R.2.2 k, h1, Sh0_get hk, h3]
    show some c = some (hc (st_f (st_c (64 + k - 64))) (st_N (st_c (64 + k - 64))) (st_sh c))
    rw [Nat.add_sub_cancel_left, h3, st_hc h2]
  · rw [List.getElem?_eq_none (by omega), List.getElem?_eq_none (by rw [Sh0_len]; omega)]
    rfl
theorem hr_eq : ∀ (h h' : mm_H), my_hr h h' → (∀ (k : Nat) (c : mm_C), h[k]? = some c → my_nt c = true) → h' = h
  | [], [], _, _ => rfl
  | c :: r, c' :: r', ⟨h1, h2⟩, hn => by
    have e := hr_eq r r' h2 fun k x hx => hn (k + 1) x hx
    have hc := hn 0 c rfl
    have e1 : c' = c := by
      match c, h1, hc with
      | .inl (t, n, N), h1, hc =>
        have hc : (!(Nat.ble 10 t)) = true := hc
        have h1 : (if 10 ≤ t then ∃ M, c' = .inl (t - 10, n, M) else c' = .inl (t, n, N)) := h1
        rw [if_neg (fun z => by rw [Nat.ble_eq_true_of_le z] at hc; cases hc)] at h1
        exact h1
      | .inr x, h1, _ => exact h1
    rw [e, e1]
  | [], _ :: _, h, _ => h.elim
  | _ :: _, [], h, _ => h.elim
theorem st_start {h h' : mm_H} (R : mf_R mf_h0 h) (r : my_hr h h') : h' = hH Sh0 Va0 := by
  have e : h' = h := hr_eq h h' r fun k c hc => by
    have hk : k < 260 := by
      have h1 := (List.getElem?_eq_some_iff.mp hc).1
      have h2 : h.length = 260 := R.1
      omega
    obtain ⟨d, h1, h2, h3⟩ := st_k hk
    have h4 : some c = some d := hc.symm.trans ((R.2.2 k).symm.trans h1)
    cases h4
    match c, h2 with
    | .inl (t, n, N), h2 =>
      have h2 : (my_nt (.inl (t, n, N)) && Nat.ble (N + 1) (2 ^ (32 * n))) = true := h2
      exact (mf_b1 h2).1
    | .inr _, _ => rfl
  rw [e]
  exact st_heap R
/-! ===== both objects are in order there ===== -/
noncomputable def bC (a : Nat) (c : mm_C) : Bool := Nat.ble 64 a && (Nat.ble (a + 1) 324 && decide (st_sh (st_c (a - 64)) = c))
theorem bC_ok {a : Nat} {c : mm_C} (h : bC a c = true) : Sh0[a - 64]? = some c := by
  obtain ⟨h1, h2⟩ := mf_b1 h
  obtain ⟨h2, h3⟩ := mf_b1 h2
  have h1 := Nat.le_of_ble_eq_true h1
  have h2 := Nat.le_of_ble_eq_true h2
  rw [Sh0_get (by omega), of_decide_eq_true h3]
noncomputable def bR (a n : Nat) : Bool := bC a (.inl (0, n, 0))
noncomputable def bA (a n : Nat) : Bool := Nat.ble 67 a && (Nat.ble (a + 1) 312 && (!(Nat.beq a 183) && bC a (.inl (0, n, 0))))
noncomputable def bO (a ci : Nat) (fs : List Value) : Bool := Nat.ble 64 a && (Nat.ble (a + 1) 312 && (!(Nat.beq a 183) && (!(Nat.beq a 66) && (bC a (.inr (.inr (ci, fs))) && (!(Nat.beq a 65) || Nat.beq ci 11)))))
theorem bn_ne {a b : Nat} (h : (!(Nat.beq a b)) = true) : a ≠ b := fun e => by
  subst e
  rw [Nat.beq_eq.mpr rfl] at h
  cases h
theorem bR_ok {a n : Nat} (h : bR a n = true) : kR Sh0 a n := by
  have h : bC a (.inl (0, n, 0)) = true := h
  exact ⟨Nat.le_of_ble_eq_true (mf_b1 h).1, bC_ok h⟩
theorem bA_ok {a n : Nat} (h : bA a n = true) : kA Sh0 a n := by
  obtain ⟨h1, h2⟩ := mf_b1 h
  obtain ⟨h2, h3⟩ := mf_b1 h2
  obtain ⟨h3, h4⟩ := mf_b1 h3
  exact ⟨Nat.le_of_ble_eq_true h1, Or.inl (Nat.le_of_ble_eq_true h2), bn_ne h3, bC_ok h4⟩
theorem bO_ok {a ci : Nat} {fs : List Value} (h : bO a ci fs = true) : kO Sh0 a ci fs := by
  obtain ⟨h1, h2⟩ := mf_b1 h
  obtain ⟨h2, h3⟩ := mf_b1 h2
  obtain ⟨h3, h4⟩ := mf_b1 h3
  obtain ⟨h6, h4⟩ := mf_b1 h4
  obtain ⟨h4, h5⟩ := mf_b1 h4
  refine ⟨⟨Nat.le_of_ble_eq_true h1, fun e => ?_⟩, Or.inl (Nat.le_of_ble_eq_true h2), ⟨bn_ne h3, bn_ne h6⟩, bC_ok h4⟩
  rw [Bool.or_eq_true] at h5
  rcases h5 with h5 | h5
  · exact absurd e (bn_ne h5)
  · exact Nat.beq_eq.mp h5
noncomputable def bNames (a : Nat) : Bool := bO a 7 [.ref (a + 1), .int 0] && bA (a + 1) 5
theorem bNames_ok {a : Nat} (h : bNames a = true) : kNames Sh0 a := by
  obtain ⟨i0, r0⟩ := mf_b1 h
  exact ⟨bO_ok i0, bA_ok r0⟩
noncomputable def bScene (a : Nat) : Bool := bO a 10 [.ref (a + 1), .ref (a + 3), .ref (a + 5), .int 0, .int 0, .int 0] && (bNames (a + 1) && (bNames (a + 3) && bA (a + 5) 5))
theorem bScene_ok {a : Nat} (h : bScene a = true) : kScene Sh0 a := by
  obtain ⟨i0, r0⟩ := mf_b1 h
  obtain ⟨i1, r1⟩ := mf_b1 r0
  obtain ⟨i2, r2⟩ := mf_b1 r1
  exact ⟨bO_ok i0, bNames_ok i1, bNames_ok i2, bA_ok r2⟩
noncomputable def bForm (a : Nat) : Bool := bO a 3 [.ref (a + 1), .ref (a + 2), .ref (a + 3), .int 0] && (bA (a + 1) 60 && (bA (a + 2) 60 && bA (a + 3) 60))
theorem bForm_ok {a : Nat} (h : bForm a = true) : kForm Sh0 a := by
  obtain ⟨i0, r0⟩ := mf_b1 h
  obtain ⟨i1, r1⟩ := mf_b1 r0
  obtain ⟨i2, r2⟩ := mf_b1 r1
  exact ⟨bO_ok i0, bA_ok i1, bA_ok i2, bA_ok r2⟩
noncomputable def bKnow (a : Nat) : Bool := bO a 5 [.ref (a + 1), .int 0, .int 0] && bA (a + 1) 160
theorem bKnow_ok {a : Nat} (h : bKnow a = true) : kKnow Sh0 a := by
  obtain ⟨i0, r0⟩ := mf_b1 h
  exact ⟨bO_ok i0, bA_ok r0⟩
noncomputable def bLog (a : Nat) : Bool := bO a 6 [.ref (a + 1), .ref (a + 2), .ref (a + 3), .ref (a + 4), .int 0] && (bA (a + 1) 20 && (bA (a + 2) 20 && (bA (a + 3) 20 && bA (a + 4) 7)))
theorem bLog_ok {a : Nat} (h : bLog a = true) : kLog Sh0 a := by
  obtain ⟨i0, r0⟩ := mf_b1 h
  obtain ⟨i1, r1⟩ := mf_b1 r0
  obtain ⟨i2, r2⟩ := mf_b1 r1
  obtain ⟨i3, r3⟩ := mf_b1 r2
  exact ⟨bO_ok i0, bA_ok i1, bA_ok i2, bA_ok i3, bA_ok r3⟩
noncomputable def bOrder (a : Nat) : Bool := bO a 8 [.ref (a + 1), .int 0, .int 0, .int 0, .int 0] && bForm (a + 1)
theorem bOrder_ok {a : Nat} (h : bOrder a = true) : kOrder Sh0 a := by
  obtain ⟨i0, r0⟩ := mf_b1 h
  exact ⟨bO_ok i0, bForm_ok r0⟩
noncomputable def bSrc  : Bool := bO 65 11 [.ref 66, .ref 67, .ref 68, .ref 69, .int 0, .int 0, .int 0, .int 0, .int 0, .int 0, .int 0, .int 0] && (bR 66 600 && (bA 67 601 && (bA 68 601 && bA 69 601)))
theorem bSrc_ok  (h : bSrc = true) : kSrc Sh0 := by
  obtain ⟨i0, r0⟩ := mf_b1 h
  obtain ⟨i1, r1⟩ := mf_b1 r0
  obtain ⟨i2, r2⟩ := mf_b1 r1
  obtain ⟨i3, r3⟩ := mf_b1 r2
  exact ⟨bO_ok i0, bR_ok i1, bA_ok i2, bA_ok i3, bA_ok r3⟩
noncomputable def bFR  : Bool := bO 76 4 [.ref 65, .ref 77, .ref 78, .int 0, .int 0, .int 0] && (bSrc && (bA 77 68 && bA 78 68))
theorem bFR_ok  (h : bFR = true) : kFR Sh0 := by
  obtain ⟨i0, r0⟩ := mf_b1 h
  obtain ⟨i1, r1⟩ := mf_b1 r0
  obtain ⟨i2, r2⟩ := mf_b1 r1
  exact ⟨bO_ok i0, bSrc_ok i1, bA_ok i2, bA_ok r2⟩
noncomputable def bDR  : Bool := bO 79 2 [.ref 65, .ref 76, .ref 72, .ref 70] && (bSrc && (bFR && (bForm 72 && bKnow 70)))
theorem bDR_ok  (h : bDR = true) : kDR Sh0 := by
  obtain ⟨i0, r0⟩ := mf_b1 h
  obtain ⟨i1, r1⟩ := mf_b1 r0
  obtain ⟨i2, r2⟩ := mf_b1 r1
  obtain ⟨i3, r3⟩ := mf_b1 r2
  exact ⟨bO_ok i0, bSrc_ok i1, bFR_ok i2, bForm_ok i3, bKnow_ok r3⟩
noncomputable def bState (a : Nat) : Bool := bO a 12 [.ref (a + 1), .ref (a + 3), .ref (a + 7), .ref 185] && (bKnow (a + 1) && (bForm (a + 3) && (bLog (a + 7) && bScene 185)))
theorem bState_ok {a : Nat} (h : bState a = true) : kState Sh0 a 185 := by
  obtain ⟨i0, r0⟩ := mf_b1 h
  obtain ⟨i1, r1⟩ := mf_b1 r0
  obtain ⟨i2, r2⟩ := mf_b1 r1
  obtain ⟨i3, r3⟩ := mf_b1 r2
  exact ⟨bO_ok i0, bKnow_ok i1, bForm_ok i2, bLog_ok i3, bScene_ok r3⟩
set_option maxRecDepth 1000000 in
theorem s0_a : (bO 64 13 [.ref 65, .ref 76, .ref 79, .ref 80, .ref 72, .ref 70, .ref 182, .ref 183, .ref 191, .ref 203, .ref 215, .int 0, .int 0, .int 0] && (bDR && (bO 80 9 [.ref 65, .ref 76, .ref 81, .int 0] && (bC 81 (.inr (.inl (4, [some 82, some 87, some 92, some 97, some 102, some 107, some 112, some 117, some 122, some 127, some 132, some 137, some 142, some 147, some 152, some 157, some 162, some 167, some 172, some 177]))) && ((List.range 20).all (fun i => bOrder (82 + 5 * i)) && (bA 182 240 && bC 215 pastA)))))) = true := by decide +kernel
set_option maxRecDepth 1000000 in
theorem s0_b : (bState 191 && (bState 203 && (List.range 8).all (fun i => bState (216 + 12 * i)))) = true := by decide +kernel
set_option maxRecDepth 1000000 in
theorem s0_c : (List.range 260).all (fun k => match st_sh (st_c k) with
  | .inr (.inr (7, _)) => Nat.ble (mm_un (st_f (st_c k) 1)) 5
  | _ => true) = true := by decide +kernel
set_option maxRecDepth 1000000 in
theorem s0_d : (bC 183 (.inr (.inr (1, [.ref 184, .int 0, .int 0, .int 0]))) && (bC 184 (.inl (2, 16, 0)) && (decide (st_c 120 = .inl (2, 16, 0)) && (decide (Va0.1 183 1 = 0) && decide (Va0.1 183 3 = 0))))) = true := by decide +kernel
set_option maxRecDepth 1000000 in
theorem s0_e : (bC 312 (mo_o) && (bC 313 (.inl (0, 564, 0)) && (bC 314 (.inl (0, 564, 0)) && (bC 315 (.inl (0, 564, 0)) && (bC 316 (.inl (0, 564, 0)) && (bC 317 (.inl (0, 4512, 0)) && (bC 318 (.inl (0, 60, 0)) && (bC 319 (.inl (0, 600, 0)) && (bC 320 (.inl (0, 5061, 0)) && (bC 321 (.inl (0, 60, 0)) && (bC 322 (.inl (0, 2000, 0)) && (bC 323 (.inl (1, 1, 0)) && ( true))))))))))))) = true := by decide +kernel
set_option maxRecDepth 1000000 in
theorem s0_f : (decide (Va0.1 312 5 = 0) && decide (Va0.1 312 7 = 0) && decide (Va0.1 312 10 = 0) && decide (Va0.1 312 26 = 0)) = true ∧ Va0.1 65 4 = 0 := by decide +kernel
set_option maxRecDepth 1000000 in
theorem s0_g : (decide (Va0.1 313 0 = 1) && decide (Va0.1 313 1 = 1) && decide (Va0.1 313 2 = 3) && decide (Va0.1 313 3 = 2) && decide (Va0.1 313 4 = 0) && decide (Va0.1 313 6 = 0) && decide (Va0.1 313 320 = 1) && decide (Va0.1 313 321 = 0) && decide (Va0.1 313 322 = 0) && decide (Va0.1 313 323 = 0)) = true := by decide +kernel
set_option maxRecDepth 1000000 in
theorem s0_h : (List.range 5).all (fun i => Nat.ble (mm_un (Va0.1 313 (80 + 7 * i))) 6 && Nat.ble (mm_un (Va0.1 313 (115 + 7 * i))) 6) = true := by decide +kernel
set_option maxRecDepth 1000000 in
theorem s0_i : (List.range 32).all (fun w => decide (Va0.1 313 (160 + w) = 3)) = true := by decide +kernel
set_option maxRecDepth 1000000 in
theorem s0_j : capS Sh0 = 16 ∧ shS Sh0 = 25826 := by decide +kernel
theorem wi_0 : WI Sh0 := by
  obtain ⟨h1, r1⟩ := mf_b1 s0_a
  obtain ⟨h2, r2⟩ := mf_b1 r1
  obtain ⟨h3, r3⟩ := mf_b1 r2
  obtain ⟨h4, r4⟩ := mf_b1 r3
  obtain ⟨h5, r5⟩ := mf_b1 r4
  obtain ⟨h6, h7⟩ := mf_b1 r5
  obtain ⟨g1, q1⟩ := mf_b1 s0_b
  obtain ⟨g2, g3⟩ := mf_b1 q1
  have hD := bDR_ok h2
  refine ⟨bO_ok h1, hD, ⟨bO_ok h3, hD.2.1, hD.2.2.1, bC_ok h4, fun i hi => bOrder_ok (List.all_eq_true.mp h5 i (List.mem_range.mpr hi))⟩, bA_ok h6, bC_ok h7, fun b hb => ⟨185, ?_⟩⟩
  rcases hb with rfl | rfl | ⟨i, hi, rfl⟩
  · exact bState_ok g1
  · exact bState_ok g2
  · exact bState_ok (List.all_eq_true.mp g3 i (List.mem_range.mpr hi))
theorem cn_0 : CN Sh0 Va0 := by
  intro q fs h64 hq
  have hk : q - 64 < 260 := by
    have h1 := (List.getElem?_eq_some_iff.mp hq).1
    rw [Sh0_len] at h1
    exact h1
  have h := List.all_eq_true.mp s0_c (q - 64) (List.mem_range.mpr hk)
  rw [Sh0_get hk] at hq
  have hq := Option.some.inj hq
  rw [hq] at h
  exact ⟨mm_un (st_f (st_c (q - 64)) 1), Nat.le_of_ble_eq_true h, (wx_un _).symm⟩
theorem sb_0 : SBok Sh0 Va0 := by
  obtain ⟨h1, r1⟩ := mf_b1 s0_d
  obtain ⟨h2, r2⟩ := mf_b1 r1
  obtain ⟨h3, r3⟩ := mf_b1 r2
  obtain ⟨h4, h5⟩ := mf_b1 r3
  refine ⟨184, 16, 0, by decide, by decide, by decide, bC_ok h1, bC_ok h2, of_decide_eq_true h4, of_decide_eq_true h5, by decide, by decide, fun j => ?_⟩
  have e : Va0.1 184 j = 0 := by
    show st_f (st_c 120) j = 0
    rw [of_decide_eq_true h3]
    show Int32.ofNat (mm_ag 32 0 j) = 0
    rw [mm_ag_0]
    rfl
  rw [e]
  rfl
theorem ri_0 : RI Va0 := by
  obtain ⟨hf, _⟩ := s0_f
  simp only [Bool.and_eq_true, decide_eq_true_eq] at hf
  obtain ⟨⟨⟨f5, f7⟩, f10⟩, f26⟩ := hf
  have hg := s0_g
  simp only [Bool.and_eq_true, decide_eq_true_eq] at hg
  obtain ⟨⟨⟨⟨⟨⟨⟨⟨⟨g0, g1⟩, g2⟩, g3⟩, g4⟩, g6⟩, g320⟩, g321⟩, g322⟩, g323⟩ := hg
  refine ⟨0, 0, 0, false, f10, by decide, f5, by decide, f26, by decide, f7, fun z => (by cases z), ?_, fun q hq => absurd hq (Nat.not_lt_zero q)⟩
  refine ⟨1, 1, 0, 0, 1, 2, g0, by decide, g1, by decide, by decide, g4, by decide, g6, by decide, g3, by decide, by decide, ⟨g320, by decide, by decide, fun k hk => ?_, 1, Or.inl ⟨g321, rfl⟩⟩, fun i hi => ?_, ?_, fun p w hp hw hh => ?_⟩
  · obtain rfl : k = 0 := by omega
    exact ⟨0, 0, 0, g321, g322, g323, by decide, fun _ => by decide, fun z => absurd z (by decide), fun z => absurd z (by decide), fun z => absurd z (by decide), fun _ _ _ _ => rfl⟩
  · obtain ⟨h1, h2⟩ := mf_b1 (List.all_eq_true.mp s0_h i (List.mem_range.mpr hi))
    exact ⟨⟨_, Nat.le_of_ble_eq_true h1, (wx_un _).symm⟩, _, Nat.le_of_ble_eq_true h2, (wx_un _).symm⟩
  · rw [g2, g4]
    decide
  · obtain rfl : p = 0 := by omega
    have h1 := of_decide_eq_true (List.all_eq_true.mp s0_i w (List.mem_range.mpr hw))
    rw [show 160 + 32 * 0 + w = 160 + w by omega, h1]
    rw [g2] at hh
    exact hh
theorem lawt_0 : LT 0 Sh0 Va0 (Int32.ofNat 0) (Int32.ofNat 0) (Va0.1 66, Va0.1 319) := by
  have he := s0_e
  simp only [Bool.and_eq_true] at he
  obtain ⟨e1, e2, e3, e4, e5, e6, e7, e8, e9, e10, e11, e12, _⟩ := he
  obtain ⟨hf, f65⟩ := s0_f
  simp only [Bool.and_eq_true, decide_eq_true_eq] at hf
  obtain ⟨⟨⟨f5, f7⟩, f10⟩, f26⟩ := hf
  obtain ⟨c1, c2⟩ := s0_j
  exact ⟨wi_0, cn_0, sb_0, ⟨bC_ok e1, bC_ok e2, bC_ok e3, bC_ok e4, bC_ok e5, bC_ok e6, bC_ok e7, bC_ok e8, bC_ok e9, bC_ok e10, bC_ok e11⟩, ri_0, f65, f10, by rw [Sh0_len]; exact Nat.le_refl _, bC_ok e12, by rw [Sh0_len, c1]; decide, by rw [c2, c1]; decide, rfl, rfl⟩
end M82
