/-! ===== the mini machine's numbers are the machine's ===== -/
theorem mm_fN_eq {α : Type} (n : Nat) (k : Nat → α) : mm_fN n k = k n := by cases n <;> rfl
theorem mm_fI_eq {α : Type} (x : Int32) (k : Int32 → α) : mm_fI x k = k x := by
  unfold mm_fI
  rw [mm_fN_eq]
  congr 1
  apply Int32.toBitVec_inj.mp
  simp
theorem mm_fL_eq {α : Type} (x : Int64) (k : Int64 → α) : mm_fL x k = k x := by
  unfold mm_fL
  rw [mm_fN_eq]
  congr 1
  apply Int64.toBitVec_inj.mp
  simp
theorem mm_un_bv (x : Int32) : mm_un x = x.toBitVec.toNat := rfl
theorem mm_un_lt (x : Int32) : mm_un x < 4294967296 := by rw [mm_un_bv]; exact x.toBitVec.isLt
theorem mm_eq_iff (x y : Int32) : mm_eq x y = true ↔ x = y := by
  unfold mm_eq
  rw [Nat.beq_eq, mm_un_bv, mm_un_bv, BitVec.toNat_inj, Int32.toBitVec_inj]
theorem mm_toInt (x : Int32) : x.toInt = if mm_un x < 2147483648 then (mm_un x : Int) else (mm_un x : Int) - 4294967296 := by
  have h := BitVec.toInt_eq_toNat_cond x.toBitVec
  rw [mm_un_bv]
  show x.toBitVec.toInt = _
  rw [h]
  split <;> split <;> omega
theorem mm_lt_iff (x y : Int32) : mm_lt x y = true ↔ x < y := by
  unfold mm_lt mm_sn
  rw [Nat.ble_eq, Int32.lt_iff_toInt_lt, mm_toInt x, mm_toInt y]
  have hx := mm_un_lt x
  have hy := mm_un_lt y
  split <;> split <;> omega
theorem mm_nonneg {x : Int32} (h : mm_un x < 2147483648) : ¬ x < 0 ∧ x.toNatClampNeg = mm_un x ∧ x.toInt = mm_un x := by
  have h1 := mm_toInt x
  rw [if_pos h] at h1
  refine ⟨fun q => ?_, ?_, h1⟩
  · rw [Int32.lt_iff_toInt_lt, h1] at q
    simp at q
    omega
  · show x.toInt.toNat = _
    rw [h1]
    rfl
theorem mm_in_ok {i : Int32} {n : Nat} (h : mm_in i n = true) : vp_in i n ∧ i.toNatClampNeg = mm_un i ∧ mm_un i < n := by
  unfold mm_in at h
  simp only [Bool.and_eq_true, Nat.ble_eq] at h
  obtain ⟨h1, h2⟩ := h
  obtain ⟨a, b, -⟩ := mm_nonneg (x := i) (by omega)
  exact ⟨fun q => q.elim a (fun q => by rw [b] at q; omega), b, h1⟩
theorem mm_lN (x : Int64) : ∃ (a : Nat) (M : Nat), x.toUInt64.toNat = a ∧ a < 2 * M ∧ M = 9223372036854775808 ∧ x.toInt = if a < M then (a : Int) else (a : Int) - 2 * (M : Int) := by
  refine ⟨x.toUInt64.toNat, 2 ^ 63, rfl, ?_, by rfl, ?_⟩
  · have h := UInt64.toNat_lt x.toUInt64
    omega
  · have h := BitVec.toInt_eq_toNat_cond x.toBitVec
    show x.toBitVec.toInt = if x.toBitVec.toNat < _ then (x.toBitVec.toNat : Int) else (x.toBitVec.toNat : Int) - _
    rw [h]
    split <;> split <;> omega
theorem mm_lsn_lt (x y : Int64) : mm_lsn x < mm_lsn y ↔ x < y := by
  obtain ⟨a, M, ha, la, hM, ta⟩ := mm_lN x
  obtain ⟨b, M', hb, lb, hM', tb⟩ := mm_lN y
  have e : M' = M := hM'.trans hM.symm
  subst e
  unfold mm_lsn
  rw [Int64.lt_iff_toInt_lt, ta, tb, ha, hb, ← hM]
  clear ta tb ha hb hM hM'
  by_cases h1 : M' ≤ a
  · rw [show Nat.ble M' a = true from Nat.ble_eq.mpr h1, if_neg (by omega)]
    by_cases h2 : M' ≤ b
    · rw [show Nat.ble M' b = true from Nat.ble_eq.mpr h2, if_neg (by omega)]
      show a - M' < b - M' ↔ _
      omega
    · rw [show Nat.ble M' b = false from by rw [← Bool.not_eq_true, Nat.ble_eq]; exact h2, if_pos (by omega)]
      show a - M' < b + M' ↔ _
      omega
  · rw [show Nat.ble M' a = false from by rw [← Bool.not_eq_true, Nat.ble_eq]; exact h1, if_pos (by omega)]
    by_cases h2 : M' ≤ b
    · rw [show Nat.ble M' b = true from Nat.ble_eq.mpr h2, if_neg (by omega)]
      show a + M' < b - M' ↔ _
      omega
    · rw [show Nat.ble M' b = false from by rw [← Bool.not_eq_true, Nat.ble_eq]; exact h2, if_pos (by omega)]
      show a + M' < b + M' ↔ _
      omega
theorem mm_lcmp_eq (x y : Int64) : mm_lcmp x y = lg_cmp x y := by
  unfold mm_lcmp lg_cmp
  have h1 := mm_lsn_lt x y
  have h2 := mm_lsn_lt y x
  by_cases a : mm_lsn x < mm_lsn y
  · rw [show Nat.ble (mm_lsn x + 1) (mm_lsn y) = true from Nat.ble_eq.mpr a]
    have e1 : x < y := h1.mp a
    have e2 : ¬ x > y := fun q => by have := h2.mpr q; omega
    have e3 : ¬ x = y := fun q => by subst q; omega
    rw [if_neg e2, if_neg e3]
  · rw [show Nat.ble (mm_lsn x + 1) (mm_lsn y) = false from by rw [← Bool.not_eq_true, Nat.ble_eq]; exact a]
    by_cases b : mm_lsn y < mm_lsn x
    · have e1 : x > y := h2.mp b
      rw [if_pos e1, show Nat.beq (mm_lsn x) (mm_lsn y) = false from by rw [← Bool.not_eq_true, Nat.beq_eq]; omega]
    · have e1 : ¬ x > y := fun q => b (h2.mpr q)
      have e2 : ¬ x < y := fun q => a (h1.mpr q)
      have e3 : x = y := by
        rw [Int64.lt_iff_toInt_lt] at e2
        have e1 : ¬ y < x := e1
        rw [Int64.lt_iff_toInt_lt] at e1
        exact Int64.toInt_inj.mp (by omega)
      rw [if_neg e1, if_pos e3, show Nat.beq (mm_lsn x) (mm_lsn y) = true from by rw [Nat.beq_eq]; omega]
theorem mm_ag_lt (w N i : Nat) : mm_ag w N i < 2 ^ w := Nat.mod_lt _ (Nat.two_pow_pos w)
theorem mm_tb (w N i k : Nat) : (mm_ag w N i).testBit k = (decide (k < w) && N.testBit (w * i + k)) := by
  unfold mm_ag
  rw [Nat.testBit_mod_two_pow, Nat.testBit_shiftRight]
theorem mm_ag_as (w N i v j : Nat) (hw : 0 < w) : mm_ag w (mm_as w N i v) j = if j = i then v % 2 ^ w else mm_ag w N j := by
  apply Nat.eq_of_testBit_eq
  intro k
  by_cases hk : k < w
  · rw [mm_tb, mm_as, Nat.testBit_xor, Nat.testBit_shiftLeft, Nat.testBit_xor, mm_tb, Nat.testBit_mod_two_pow]
    by_cases hj : j = i
    · subst hj
      simp [hk, Nat.testBit_mod_two_pow]
    · rw [if_neg hj, mm_tb]
      rcases Nat.lt_or_gt_of_ne hj with h | h
      · have : ¬ w * i ≤ w * j + k := by
          have : w * (j + 1) ≤ w * i := Nat.mul_le_mul_left w h
          rw [Nat.mul_add] at this
          omega
        simp [this]
      · have h1 : w * (i + 1) ≤ w * j := Nat.mul_le_mul_left w h
        rw [Nat.mul_add] at h1
        have : ¬ w * j + k - w * i < w := by omega
        simp [this]
  · rw [mm_tb]
    split
    · rw [Nat.testBit_mod_two_pow]; simp [hk]
    · rw [mm_tb]; simp [hk]
theorem mm_ag_0 (w j : Nat) : mm_ag w 0 j = 0 := by simp [mm_ag]
theorem mm_cpy_ag (w N : Nat) (hw : 0 < w) : ∀ (k p M q j : Nat), mm_ag w (mm_cpy w N p M q k) j = if q ≤ j ∧ j < q + k then mm_ag w N (p + (j - q)) else mm_ag w M j := by
  intro k
  induction k with
  | zero =>
    intro p M q j
    rw [if_neg (by omega)]
    rfl
  | succ k ih =>
    intro p M q j
    show mm_ag w (mm_fN _ _) j = _
    rw [mm_fN_eq, ih, mm_ag_as _ _ _ _ _ hw]
    by_cases h1 : q + 1 ≤ j ∧ j < q + 1 + k
    · rw [if_pos h1, if_pos (by omega), show p + 1 + (j - (q + 1)) = p + (j - q) by omega]
    · rw [if_neg h1]
      by_cases h2 : j = q
      · subst h2
        rw [if_pos rfl, if_pos (by omega), Nat.sub_self, Nat.add_zero, Nat.mod_eq_of_lt (mm_ag_lt _ _ _)]
      · rw [if_neg h2, if_neg (by omega)]
theorem mm_cnd_iff (c : ClassFile.Cond) (x y : Int32) : mm_cnd c x y = true ↔ (match c with | .eq => x = y | .ne => ¬ x = y | .lt => x < y | .ge => ¬ x < y | .gt => y < x | .le => ¬ y < x) := by
  cases c <;> simp only [mm_cnd, Bool.not_eq_true', ← Bool.not_eq_true, mm_eq_iff, mm_lt_iff]
