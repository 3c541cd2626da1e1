section M41
/-! ===== sets as bits ===== -/
theorem hb_k : ∀ k : Fin 32, ((Int32.ofNat k.val).toUInt32 &&& Int32.toUInt32 31).toNat = k.val := by decide
theorem hb_tb (x : Int32) {k : Nat} (hk : k < 32) : hasB x (Int32.ofNat k) = (mm_un x).testBit k := by
  have h1 : mm_un ((x.toUInt32 >>> ((Int32.ofNat k).toUInt32 &&& Int32.toUInt32 31)).toInt32 &&& 1) = (mm_un x >>> k) &&& 1 := by
    rw [un_and]
    show (x.toUInt32 >>> ((Int32.ofNat k).toUInt32 &&& Int32.toUInt32 31)).toNat &&& 1 = _
    rw [UInt32.toNat_shiftRight, hb_k ⟨k, hk⟩, Nat.mod_eq_of_lt hk]
    rfl
  have h2 : (mm_un x).testBit k = decide ((mm_un x >>> k) &&& 1 = 1) := by
    rw [Nat.testBit, Nat.and_comm, Nat.and_one_is_mod]
    have : mm_un x >>> k % 2 < 2 := Nat.mod_lt _ (by decide)
    generalize mm_un x >>> k % 2 = z at this ⊢
    obtain rfl | rfl : z = 0 ∨ z = 1 := by omega
    · rfl
    · rfl
  rw [h2, ← h1]
  unfold hasB
  exact decide_eq_decide.mpr ⟨fun q => by rw [q]; rfl, fun q => un_inj q⟩
theorem un_xor (a b : Int32) : mm_un (a ^^^ b) = mm_un a ^^^ mm_un b := by
  rw [mm_un_bv, mm_un_bv, mm_un_bv]
  show (a.toBitVec ^^^ b.toBitVec).toNat = _
  rw [BitVec.toNat_xor]
theorem hb_or (a b : Int32) {k : Nat} (hk : k < 32) : hasB (a ||| b) (Int32.ofNat k) = (hasB a (Int32.ofNat k) || hasB b (Int32.ofNat k)) := by rw [hb_tb _ hk, hb_tb _ hk, hb_tb _ hk, un_or, Nat.testBit_or]
theorem hb_and (a b : Int32) {k : Nat} (hk : k < 32) : hasB (a &&& b) (Int32.ofNat k) = (hasB a (Int32.ofNat k) && hasB b (Int32.ofNat k)) := by rw [hb_tb _ hk, hb_tb _ hk, hb_tb _ hk, un_and, Nat.testBit_and]
theorem hb_xor (a b : Int32) {k : Nat} (hk : k < 32) : hasB (a ^^^ b) (Int32.ofNat k) = (hasB a (Int32.ofNat k) ^^ hasB b (Int32.ofNat k)) := by rw [hb_tb _ hk, hb_tb _ hk, hb_tb _ hk, un_xor, Nat.testBit_xor]
theorem hb_m1 : ∀ k : Fin 32, hasB (-1) (Int32.ofNat k.val) = true := by decide
theorem hb_not (a : Int32) {k : Nat} (hk : k < 32) : hasB (a ^^^ -1) (Int32.ofNat k) = !hasB a (Int32.ofNat k) := by
  rw [hb_xor _ _ hk, hb_m1 ⟨k, hk⟩]
  cases hasB a (Int32.ofNat k) <;> rfl
theorem hb_0 {k : Nat} (hk : k < 32) : hasB 0 (Int32.ofNat k) = false := hasB_0 k hk
theorem hb_shl2 : ∀ k j : Fin 32, hasB (1 <<< (Int32.ofNat j.val &&& 31)) (Int32.ofNat k.val) = decide (k.val = j.val) := by decide
theorem hb_shl {k j : Nat} (hk : k < 32) (hj : j < 32) : hasB (1 <<< (Int32.ofNat j &&& 31)) (Int32.ofNat k) = decide (k = j) := hb_shl2 ⟨k, hk⟩ ⟨j, hj⟩
theorem hb_shb {k j : Nat} (hk : k < 32) (hj : j < 32) (b : Bool) : hasB (bI b <<< (Int32.ofNat j &&& 31)) (Int32.ofNat k) = (decide (k = j) && b) := by
  cases b with
  | true => rw [Bool.and_true]; exact hb_shl hk hj
  | false =>
    rw [Bool.and_false]
    have : ∀ j : Fin 32, (0 : Int32) <<< (Int32.ofNat j.val &&& 31) = 0 := by decide
    show hasB (0 <<< (Int32.ofNat j &&& 31)) _ = _
    rw [this ⟨j, hj⟩]
    exact hb_0 hk
theorem hb_ext {a b : Int32} (h : ∀ k, k < 32 → hasB a (Int32.ofNat k) = hasB b (Int32.ofNat k)) : a = b := by
  refine un_inj (Nat.eq_of_testBit_eq fun k => ?_)
  by_cases hk : k < 32
  · rw [← hb_tb _ hk, ← hb_tb _ hk]
    exact h k hk
  · have h1 : (2 : Nat) ^ 32 ≤ 2 ^ k := Nat.pow_le_pow_right (by decide) (by omega)
    have h2 : mm_un a < 2 ^ 32 := mm_un_lt a
    have h3 : mm_un b < 2 ^ 32 := mm_un_lt b
    rw [Nat.testBit_lt_two_pow (Nat.lt_of_lt_of_le h2 h1), Nat.testBit_lt_two_pow (Nat.lt_of_lt_of_le h3 h1)]
theorem hb_le {a b : Int32} (h : ∀ k, k < 32 → hasB a (Int32.ofNat k) = true → hasB b (Int32.ofNat k) = true) : mm_un a ≤ mm_un b := by
  have e : a &&& b = a := hb_ext fun k hk => by
    rw [hb_and _ _ hk]
    have := h k hk
    revert this
    cases hasB a (Int32.ofNat k) <;> cases hasB b (Int32.ofNat k) <;> simp
  rw [← e, un_and]
  exact Nat.and_le_right
theorem hb_orF {f : Nat → Bool} {k : Nat} (hk : k < 32) : ∀ n, n ≤ 32 → hasB (orF f n) (Int32.ofNat k) = (decide (k < n) && f k)
  | 0, _ => by
    rw [show decide (k < 0) = false from decide_eq_false (Nat.not_lt_zero k), Bool.false_and]
    exact hb_0 hk
  | n + 1, h => by
    rw [orF.eq_2, hb_or _ _ hk, hb_orF hk n (by omega), hb_shb hk (by omega)]
    by_cases e : k = n
    · subst e
      rw [decide_eq_false (show ¬ k < k by omega), decide_eq_true (show k = k from rfl), decide_eq_true (show k < k + 1 by omega), Bool.false_and, Bool.false_or]
    · rw [decide_eq_false e, Bool.false_and, Bool.or_false]
      by_cases q : k < n
      · rw [decide_eq_true q, decide_eq_true (show k < n + 1 by omega)]
      · rw [decide_eq_false q, decide_eq_false (show ¬ k < n + 1 by omega)]
theorem hb_o32 {f : Nat → Bool} {k : Nat} (hk : k < 32) : hasB (orF f 32) (Int32.ofNat k) = f k := by
  rw [hb_orF hk 32 (Nat.le_refl _), decide_eq_true hk, Bool.true_and]
theorem hb_n0 {a : Int32} {k : Nat} (hk : k < 32) (h : hasB a (Int32.ofNat k) = true) : ¬ a = 0 := fun q => by
  rw [q, hb_0 hk] at h
  exact absurd h (by decide)
theorem hb_sub {a b : Int32} : a &&& (b ^^^ -1) = 0 ↔ ∀ k, k < 32 → hasB a (Int32.ofNat k) = true → hasB b (Int32.ofNat k) = true := by
  constructor
  · intro h k hk ha
    have := hb_and a (b ^^^ -1) hk
    rw [h, hb_0 hk, ha, hb_not _ hk, Bool.true_and] at this
    revert this
    cases hasB b (Int32.ofNat k) <;> decide
  · intro h
    refine hb_ext fun k hk => ?_
    rw [hb_and _ _ hk, hb_not _ hk, hb_0 hk]
    have := h k hk
    revert this
    cases hasB a (Int32.ofNat k) <;> cases hasB b (Int32.ofNat k) <;> simp
/-- who thinks a world possible in which one is thinks so of that world itself -/
def RFL (V : hV) (n : Nat) : Prop := ∀ p w, p < n → w < 32 → hasB (V.1 313 2) (Int32.ofNat w) = true → hasB (V.1 313 (160 + 32 * p + w)) (Int32.ofNat w) = true
theorem kb_le {V : hV} {n p : Nat} (h : RFL V n) (hp : p < n) (set : Int32) {k : Nat} (hk : k < 32) (hh : hasB (kb V p set) (Int32.ofNat k) = true) : hasB set (Int32.ofNat k) = true := by
  unfold kb at hh
  rw [hb_o32 hk] at hh
  rw [Bool.and_eq_true] at hh
  obtain ⟨h1, h2⟩ := hh
  unfold isl at h1
  refine hb_sub.mp (of_decide_eq_true h2) k hk ?_
  unfold alk
  rw [if_pos h1, hb_and _ _ hk, h p k hp hk h1, h1]
  rfl
theorem kba_le {V : hV} {n : Nat} (h : RFL V n) (set : Int32) (h1 : 1 ≤ n) : mm_un (kba V set n) ≤ mm_un set := by
  obtain ⟨m, rfl⟩ := Nat.exists_eq_add_of_le' h1
  refine hb_le fun k hk hh => ?_
  rw [kba.eq_2, hb_and _ _ hk, Bool.and_eq_true] at hh
  exact kb_le h (Nat.lt_succ_self m) set hk hh.2
theorem kba_next {V : hV} {n : Nat} (h : RFL V n) (set : Int32) : kba V (kba V set n) n = kba V set n ∨ mm_un (kba V (kba V set n) n) < mm_un (kba V set n) := by
  by_cases e : kba V (kba V set n) n = kba V set n
  · exact Or.inl e
  · refine Or.inr ?_
    by_cases z : n = 0
    · subst z
      exact absurd rfl e
    · have := kba_le h (kba V set n) (by omega)
      have hne : mm_un (kba V (kba V set n) n) ≠ mm_un (kba V set n) := fun q => e (un_inj q)
      omega
end M41
