/-! ===== every script lies in a box ===== -/
def mw_xs (xs : Nat → Int32) (j : Nat) : Int32 := if j = 11 then xs 1 &&& Int32.ofNat 4294967294 else xs j
def mw_ch (k : Nat) (x : Int32) : Nat := match k with
  | 0 => 0
  | K + 1 => if mm_sn x < 2147483648 then 0 else if mm_sn x < 2147483648 + K then mm_sn x - 2147483648 + 1 else K + 1
def mw_pick (xs : Nat → Int32) : Nat → List Nat → List (Nat × Nat)
  | _, [] => []
  | j, k :: r => (k, mw_ch k (xs j)) :: mw_pick xs (j + 1) r
theorem mw_ch0 {K : Nat} {x : Int32} (h : mm_sn x < 2147483648) : mw_ch (K + 1) x = 0 := by
  simp only [mw_ch]
  exact if_pos h
theorem mw_ch1 {K : Nat} {x : Int32} (h : ¬ mm_sn x < 2147483648) (h2 : mm_sn x < 2147483648 + K) : mw_ch (K + 1) x = mm_sn x - 2147483648 + 1 := by
  simp only [mw_ch]
  rw [if_neg h, if_pos h2]
theorem mw_ch2 {K : Nat} {x : Int32} (h : ¬ mm_sn x < 2147483648) (h2 : ¬ mm_sn x < 2147483648 + K) : mw_ch (K + 1) x = K + 1 := by
  simp only [mw_ch]
  rw [if_neg h, if_neg h2]
theorem mw_ch_mem (k : Nat) (x : Int32) : mw_ch k x ∈ mz_cs k := by
  cases k with
  | zero => exact List.mem_singleton.mpr rfl
  | succ K =>
    simp only [mz_cs]
    rw [List.mem_range]
    by_cases h1 : mm_sn x < 2147483648
    · rw [mw_ch0 h1]; omega
    · by_cases h2 : mm_sn x < 2147483648 + K
      · rw [mw_ch1 h1 h2]; omega
      · rw [mw_ch2 h1 h2]; omega
theorem mw_pick_mem (xs : Nat → Int32) : ∀ (ks : List Nat) (j : Nat), mw_pick xs j ks ∈ mz_all ks
  | [], _ => List.mem_singleton.mpr rfl
  | k :: r, j => List.mem_flatMap.mpr ⟨mw_ch k (xs j), mw_ch_mem k (xs j), List.mem_map.mpr ⟨mw_pick xs (j + 1) r, mw_pick_mem xs r (j + 1), rfl⟩⟩
theorem mw_iv_ok (xs : Nat → Int32) (t : Nat) : ∀ (l : List (Nat × Nat × Nat)), (∀ q ∈ l, q.2.1 ≤ mm_sn (xs q.1) ∧ mm_sn (xs q.1) ≤ q.2.2) → my_in (my_iv l t) (mm_sn (xs t))
  | [], _, p, hp => by cases hp
  | q :: r, h, p, hp => by
    simp only [my_iv] at hp
    cases hb : Nat.beq q.1 t with
    | true =>
      rw [hb] at hp
      have hp : some q.2 = some p := hp
      cases hp
      have h1 := h q List.mem_cons_self
      rw [Nat.beq_eq.mp hb] at h1
      exact h1
    | false =>
      rw [hb] at hp
      exact mw_iv_ok xs t r (fun q hq => h q (List.mem_cons_of_mem _ hq)) p hp
theorem mw_sn_lt (x : Int32) : mm_sn x < 4294967296 := Nat.mod_lt _ (by decide)
theorem mw_of (x : Int32) : Int32.ofNat (mm_un x) = x := by
  have h := mm_fI_eq x id
  unfold mm_fI at h
  rw [mm_fN_eq] at h
  exact h
theorem mw_sn_un (x : Int32) (h : 2147483648 ≤ mm_sn x) : mm_un x = mm_sn x - 2147483648 := by
  have h1 := mm_un_lt x
  unfold mm_sn at h ⊢
  omega
theorem mw_ne (xs : Nat → Int32) {j : Nat} (hj : j < 11) : mw_xs xs j = xs j := by
  unfold mw_xs
  rw [if_neg (by omega)]
theorem mw_nb {a b : Nat} (h : b < a) : Nat.ble a b = false := Bool.eq_false_iff.mpr fun e => Nat.not_le.mpr h (Nat.le_of_ble_eq_true e)
theorem mw_ivs0 (j K : Nat) : mz_ivs j (K + 1) 0 = [(j, 0, 2147483647)] := by simp only [mz_ivs]
theorem mw_ivs1 (j K c : Nat) (h : c + 1 ≤ K) : mz_ivs j (K + 1) (c + 1) = [] := by
  simp only [mz_ivs]
  rw [Nat.ble_eq_true_of_le h]
theorem mw_ivs2 (j K : Nat) : mz_ivs j (K + 1) (K + 1) = [(j, 2147483648 + K, 4294967295)] := by
  simp only [mz_ivs]
  rw [mw_nb (Nat.lt_succ_self K)]
theorem mw_ivs (xs : Nat → Int32) (j k : Nat) (hj : j < 11) : ∀ q ∈ mz_ivs j k (mw_ch k (xs j)), q.2.1 ≤ mm_sn (mw_xs xs q.1) ∧ mm_sn (mw_xs xs q.1) ≤ q.2.2 := by
  intro q hq
  have hlt := mw_sn_lt (xs j)
  cases k with
  | zero => cases hq
  | succ K =>
    by_cases h1 : mm_sn (xs j) < 2147483648
    · rw [mw_ch0 h1, mw_ivs0] at hq
      rw [List.mem_singleton.mp hq]
      dsimp only
      rw [mw_ne xs hj]
      exact ⟨Nat.zero_le _, by omega⟩
    · by_cases h2 : mm_sn (xs j) < 2147483648 + K
      · rw [mw_ch1 h1 h2, mw_ivs1 _ _ _ (by omega)] at hq
        cases hq
      · rw [mw_ch2 h1 h2, mw_ivs2] at hq
        rw [List.mem_singleton.mp hq]
        dsimp only
        rw [mw_ne xs hj]
        exact ⟨Nat.not_lt.mp h2, by omega⟩
theorem mw_val1 (j K c : Nat) (h : c + 1 ≤ K) : mz_val j (K + 1) (c + 1) = .int (Int32.ofNat c) := by
  simp only [mz_val]
  rw [Nat.ble_eq_true_of_le (Nat.succ_le_succ (Nat.zero_le c)), Nat.ble_eq_true_of_le h]
  rfl
theorem mw_val2 (j K : Nat) : mz_val j (K + 1) (K + 1) = .retAddr (j + 1) := by
  simp only [mz_val]
  rw [mw_nb (Nat.lt_succ_self K), Bool.and_false]
theorem mw_val (md : Bool) (xs : Nat → Int32) (j k : Nat) (hj : j < 11) : my_vr md (mw_xs xs) (mz_val j k (mw_ch k (xs j))) (.int (xs j)) := by
  have hlt := mw_sn_lt (xs j)
  have hR : my_vr md (mw_xs xs) (.retAddr (j + 1)) (.int (xs j)) := by
    show Value.int (xs j) = .int (mw_xs xs j)
    rw [mw_ne xs hj]
  cases k with
  | zero => exact hR
  | succ K =>
    have key : mz_val j (K + 1) (mw_ch (K + 1) (xs j)) = .retAddr (j + 1) ∨ mz_val j (K + 1) (mw_ch (K + 1) (xs j)) = .int (xs j) := by
      by_cases h1 : mm_sn (xs j) < 2147483648
      · rw [mw_ch0 h1]
        exact Or.inl rfl
      · by_cases h2 : mm_sn (xs j) < 2147483648 + K
        · have e := mw_sn_un (xs j) (Nat.not_lt.mp h1)
          rw [mw_ch1 h1 h2, ← e, mw_val1 j K (mm_un (xs j)) (by omega), mw_of]
          exact Or.inr rfl
        · rw [mw_ch2 h1 h2, mw_val2]
          exact Or.inl rfl
    generalize mz_val j (K + 1) (mw_ch (K + 1) (xs j)) = v at key ⊢
    rcases key with e | e
    · subst e; exact hR
    · subst e; exact rfl
theorem mw_iv (xs : Nat → Int32) : ∀ (ks : List Nat) (j : Nat), j + ks.length ≤ 11 → ∀ q ∈ mz_iv j (mw_pick xs j ks), q.2.1 ≤ mm_sn (mw_xs xs q.1) ∧ mm_sn (mw_xs xs q.1) ≤ q.2.2
  | [], _, _, q, hq => by cases hq
  | k :: r, j, h, q, hq => by
    rw [List.length_cons] at h
    have hq : q ∈ mz_ivs j k (mw_ch k (xs j)) ++ mz_iv (j + 1) (mw_pick xs (j + 1) r) := hq
    rcases List.mem_append.mp hq with hq | hq
    · exact mw_ivs xs j k (by omega) q hq
    · exact mw_iv xs r (j + 1) (by omega) q hq
theorem mw_vs (md : Bool) (xs : Nat → Int32) : ∀ (ks : List Nat) (j : Nat), j + ks.length ≤ 11 → ∀ i v, (mz_vs j (mw_pick xs j ks))[i]? = some v → my_vr md (mw_xs xs) v (.int (xs (j + i)))
  | [], _, _, _, _, hv => by cases hv
  | k :: r, j, h, i, v, hv => by
    rw [List.length_cons] at h
    cases i with
    | zero =>
      have hv : some (mz_val j k (mw_ch k (xs j))) = some v := hv
      cases hv
      exact mw_val md xs j k (by omega)
    | succ i =>
      have := mw_vs md xs r (j + 1) (by omega) i v hv
      rw [show j + (i + 1) = j + 1 + i by omega]
      exact this
theorem mw_nat (n : Nat) (h : n < 4294967296) : n &&& 4294967294 = 2 * (n / 2) := by
  refine Nat.eq_of_testBit_eq fun i => ?_
  rw [Nat.testBit_and]
  cases i with
  | zero =>
    rw [Nat.testBit_zero, Nat.testBit_zero, Nat.testBit_zero]
    simp
  | succ i =>
    rw [Nat.testBit_succ, Nat.testBit_succ, Nat.testBit_succ, show 4294967294 / 2 = 2 ^ 31 - 1 by decide, Nat.testBit_two_pow_sub_one, Nat.mul_div_cancel_left _ (by decide)]
    by_cases hi : i < 31
    · simp [hi]
    · have : (n / 2).testBit i = false := Nat.testBit_lt_two_pow (Nat.lt_of_lt_of_le (show n / 2 < 2 ^ 31 by omega) (Nat.pow_le_pow_right (by decide) (by omega)))
      rw [this]
      rfl
theorem mw_and (x : Int32) : mm_un (x &&& Int32.ofNat 4294967294) = 2 * (mm_un x / 2) := by
  have h : mm_un (x &&& Int32.ofNat 4294967294) = mm_un x &&& 4294967294 := by
    rw [mm_un_bv, mm_un_bv]
    show (x.toBitVec &&& (Int32.ofNat 4294967294).toBitVec).toNat = _
    rw [BitVec.toNat_and]
    rfl
  rw [h, mw_nat _ (mm_un_lt x)]
theorem mw_and_sn (x : Int32) : mm_sn (x &&& Int32.ofNat 4294967294) = 2 * (mm_sn x / 2) := by
  have h := mm_un_lt x
  unfold mm_sn
  rw [mw_and]
  omega
theorem mw_pv (xs : Nat → Int32) (pers : Bool) (ks : List Nat) (hp : pers = true → ks = [3]) : ∀ q ∈ mz_pv pers (mw_pick xs 1 ks), q.2.1 ≤ mm_sn (mw_xs xs q.1) ∧ mm_sn (mw_xs xs q.1) ≤ q.2.2 := by
  intro q hq
  have h11 : mm_sn (mw_xs xs 11) = 2 * (mm_sn (xs 1) / 2) := mw_and_sn (xs 1)
  have hlt := mw_sn_lt (xs 1)
  cases pers with
  | false =>
    have e : mz_pv false (mw_pick xs 1 ks) = [] := by
      unfold mz_pv
      split
      · rename_i e _; cases e
      · rename_i e _; cases e
      · rfl
    rw [e] at hq
    cases hq
  | true =>
    rw [hp rfl] at hq
    have hq : q ∈ mz_pv true [(3, mw_ch 3 (xs 1))] := hq
    by_cases h1 : mm_sn (xs 1) < 2147483648
    · rw [mw_ch0 h1] at hq
      have hq : q ∈ [(11, 0, 2147483647)] := hq
      rw [List.mem_singleton.mp hq]
      dsimp only
      rw [h11]
      exact ⟨Nat.zero_le _, by omega⟩
    · by_cases h2 : mm_sn (xs 1) < 2147483648 + 2
      · rw [mw_ch1 h1 h2] at hq
        have h3 : mm_sn (xs 1) - 2147483648 = 0 ∨ mm_sn (xs 1) - 2147483648 = 1 := by omega
        rcases h3 with h3 | h3
        · rw [h3] at hq; cases hq
        · rw [h3] at hq; cases hq
      · rw [mw_ch2 h1 h2] at hq
        have hq : q ∈ [(11, 2147483650, 4294967295)] := hq
        rw [List.mem_singleton.mp hq]
        dsimp only
        rw [h11]
        exact ⟨by omega, by omega⟩
theorem mw_un_inj {x y : Int32} (h : mm_un x = mm_un y) : x = y := by rw [← mw_of x, h, mw_of]
theorem mw_Ok {md pers : Bool} {op : Nat} {ks : List Nat} (hks : ks.length ≤ 5) (xs : Nat → Int32) (hop : xs 0 &&& 63 = Int32.ofNat op) (hp : pers = true → ks = [3]) : my_Ok (mz_E md pers op (mw_pick xs 1 ks)) (mw_xs xs) (mm_ext, (6, fun j => some (xs j)), mm_stc, mm_fty) := by
  refine ⟨fun t => mw_iv_ok (mw_xs xs) t _ fun q hq => ?_, fun t c v hv y hy => ?_, fun n hn => ?_⟩
  · rcases List.mem_append.mp (show q ∈ mz_iv 1 (mw_pick xs 1 ks) ++ mz_pv pers (mw_pick xs 1 ks) from hq) with hq | hq
    · exact mw_iv xs ks 1 (by omega) q hq
    · exact mw_pv xs pers ks hp q hq
  · have hv : my_ru [(0, 63, .int (Int32.ofNat op)), (1, 4294967294, .retAddr 12)] t c = some v := hv
    simp only [my_ru] at hv
    split at hv
    · rename_i hb
      obtain ⟨b1, b2⟩ := mf_b1 hb
      have b1 := Nat.beq_eq.mp b1
      have b2 := Nat.beq_eq.mp b2
      cases hv
      subst b1 b2
      have e : y = 63 := mw_un_inj (by rw [hy]; rfl)
      subst e
      show Value.int (mw_xs xs 0 &&& 63) = .int (Int32.ofNat op)
      rw [mw_ne xs (by decide), hop]
    · split at hv
      · rename_i hb
        obtain ⟨b1, b2⟩ := mf_b1 hb
        have b1 := Nat.beq_eq.mp b1
        have b2 := Nat.beq_eq.mp b2
        cases hv
        subst b1 b2
        have e : y = Int32.ofNat 4294967294 := mw_un_inj (by rw [hy]; rfl)
        subst e
        show Value.int (mw_xs xs 1 &&& Int32.ofNat 4294967294) = .int (mw_xs xs 11)
        rw [mw_ne xs (by decide)]
        rfl
      · cases hv
  · have hn : some 6 = some n := hn
    cases hn
    refine ⟨rfl, fun j v hj => ⟨xs j, rfl, ?_⟩⟩
    have hj : (Value.retAddr 1 :: mz_vs 1 (mw_pick xs 1 ks))[j]? = some v := hj
    cases j with
    | zero =>
      cases hj
      show Value.int (xs 0) = .int (mw_xs xs 0)
      rw [mw_ne xs (by decide)]
    | succ j =>
      have := mw_vs md xs ks 1 (by omega) j v hj
      rw [Nat.add_comm j 1]
      exact this
theorem mw_Ok0 (md : Bool) (xs : Nat → Int32) (X' : mm_X) : my_Ok (mf_E0 md) xs X' := ⟨fun _ _ h => (by cases h), fun _ _ _ h => (by cases h), fun _ h => (by cases h)⟩
theorem mw_OkL (md : Bool) (xs : Nat → Int32) (L : Nat) : my_Ok (md, [], [], [], some L) (mw_xs xs) (mm_ext, (L, fun j => some (xs j)), mm_stc, mm_fty) := ⟨fun _ _ h => (by cases h), fun _ _ _ h => (by cases h), fun n h => by
  have h : some L = some n := h
  cases h
  exact ⟨rfl, fun _ _ h => (by cases h)⟩⟩
theorem mw_Xt0 : (List.range 64).all (fun k => match mm_ext k with
  | some c => my_nt c && (match c with
    | .inr (.inr (ci, _)) => Nat.beq ci 0
    | _ => true)
  | none => true) = true := by decide +kernel
theorem mw_Xt : ∀ k c, mz_X.1 k = some c → my_nt c = true := by
  intro k c h
  have h : mm_ext k = some c := h
  have h1 := List.all_eq_true.mp mw_Xt0 k (List.mem_range.mpr (mx_ext64 k c h))
  rw [h] at h1
  exact (mf_b1 h1).1
theorem mw_Xok (L : Nat) (xs : Nat → Int32) : mm_Xok (mm_ext, (L, fun j => some (xs j)), mm_stc, mm_fty) := by
  refine ⟨mx_ext64, fun k ci fs h => ?_⟩
  have h : mm_ext k = some (.inr (.inr (ci, fs))) := h
  have h1 := List.all_eq_true.mp mw_Xt0 k (List.mem_range.mpr (mx_ext64 k _ h))
  rw [h] at h1
  exact Nat.beq_eq.mp (mf_b1 h1).2
