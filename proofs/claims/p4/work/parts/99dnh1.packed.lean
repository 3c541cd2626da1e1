section N_h
/-! ===== names: five bits a letter, and the reference's records ===== -/
def pkN (d : Nat → Nat) : Nat → Nat
  | 0 => 0
  | w + 1 => pkN d w + d w * 32 ^ w
theorem pw_lt {d : Nat → Nat} : ∀ w, (∀ i, i < w → d i ≤ 31) → pkN d w < 32 ^ w
  | 0, _ => by
    show 0 < 1
    decide
  | w + 1, h => by
    have h1 := pw_lt w fun i hi => h i (by omega)
    have h2 := Nat.mul_le_mul_right (32 ^ w) (h w (by omega))
    show pkN d w + d w * 32 ^ w < 32 ^ (w + 1)
    rw [Nat.pow_succ]
    omega
theorem pw_cg {d e : Nat → Nat} : ∀ w, (∀ i, i < w → d i = e i) → pkN d w = pkN e w
  | 0, _ => rfl
  | w + 1, h => by
    show pkN d w + d w * 32 ^ w = pkN e w + e w * 32 ^ w
    rw [pw_cg w fun i hi => h i (by omega), h w (by omega)]
theorem pw_lo (d : Nat → Nat) : ∀ w, pkN d (w + 1) = d 0 + 32 * pkN (fun i => d (i + 1)) w
  | 0 => by
    show 0 + d 0 * 32 ^ 0 = d 0 + 32 * 0
    omega
  | w + 1 => by
    show pkN d (w + 1) + d (w + 1) * 32 ^ (w + 1) = d 0 + 32 * (pkN (fun i => d (i + 1)) w + d (w + 1) * 32 ^ w)
    rw [pw_lo d w, Nat.pow_succ, Nat.mul_add]
    have : d (w + 1) * (32 ^ w * 32) = 32 * (d (w + 1) * 32 ^ w) := by
      rw [← Nat.mul_assoc, Nat.mul_comm]
    omega
theorem pw_inj : ∀ (w v : Nat) (d e : Nat → Nat), (∀ i, i < w → 1 ≤ d i ∧ d i ≤ 26) → (∀ i, i < v → 1 ≤ e i ∧ e i ≤ 26) → pkN d w = pkN e v → w = v ∧ ∀ i, i < w → d i = e i
  | 0, 0, _, _, _, _, _ => ⟨rfl, fun i h => absurd h (Nat.not_lt_zero i)⟩
  | 0, v + 1, d, e, _, h2, q => by
    rw [pw_lo] at q
    have := h2 0 (by omega)
    have q : 0 = e 0 + 32 * pkN (fun i => e (i + 1)) v := q
    omega
  | w + 1, 0, d, e, h1, _, q => by
    rw [pw_lo] at q
    have := h1 0 (by omega)
    have q : d 0 + 32 * pkN (fun i => d (i + 1)) w = 0 := q
    omega
  | w + 1, v + 1, d, e, h1, h2, q => by
    rw [pw_lo, pw_lo] at q
    have a1 := h1 0 (by omega)
    have a2 := h2 0 (by omega)
    obtain ⟨e1, e2⟩ := pw_inj w v (fun i => d (i + 1)) (fun i => e (i + 1)) (fun i hi => h1 (i + 1) (by omega)) (fun i hi => h2 (i + 1) (by omega)) (by omega)
    refine ⟨by omega, fun i hi => ?_⟩
    cases i with
    | zero => omega
    | succ i => exact e2 i (by omega)
theorem or_ad {A B i : Nat} (hA : A < 2 ^ i) (hB : 2 ^ i * B + A < 4294967296) : Int32.ofNat A ||| Int32.ofNat (2 ^ i * B) = Int32.ofNat (A + 2 ^ i * B) := by
  have e : A ||| 2 ^ i * B = A + 2 ^ i * B := by
    rw [Nat.or_comm, ← Nat.two_pow_add_eq_or_of_lt hA, Nat.add_comm]
  rw [← e]
  apply Int32.toBitVec_inj.mp
  show BitVec.ofNat 32 A ||| BitVec.ofNat 32 (2 ^ i * B) = BitVec.ofNat 32 (A ||| 2 ^ i * B)
  apply BitVec.eq_of_toNat_eq
  rw [BitVec.toNat_or, BitVec.toNat_ofNat, BitVec.toNat_ofNat, BitVec.toNat_ofNat, Nat.mod_eq_of_lt (by omega), Nat.mod_eq_of_lt (by omega), Nat.mod_eq_of_lt (by rw [e]; omega)]
theorem sh_d : ∀ (d : Fin 32) (i : Fin 6), (Int32.ofNat (96 + d.val) - 96) <<< (5 * Int32.ofNat i.val &&& 31) = Int32.ofNat (2 ^ (5 * i.val) * d.val) := by decide +kernel
/-- the letters at p, as numbers -/
def dgF (f : Nat → Int32) (l p i : Nat) : Nat := mm_un (byt f l (p + i)) - 96
theorem dg_ltr {f : Nat → Int32} {l p i : Nat} (h : ltr (byt f l (p + i)) = true) : 1 ≤ dgF f l p i ∧ dgF f l p i ≤ 26 ∧ byt f l (p + i) = Int32.ofNat (96 + dgF f l p i) := by
  unfold ltr at h
  obtain ⟨h1, h2⟩ := of_decide_eq_true h
  have h1 : ¬ byt f l (p + i) < 97 := Int32.not_lt.mpr h1
  have h2 : ¬ 122 < byt f l (p + i) := Int32.not_lt.mpr h2
  unfold dgF
  generalize byt f l (p + i) = x at *
  have g1 : ¬ x.toInt < 97 := fun q => h1 (Int32.lt_iff_toInt_lt.mpr (by rw [show (97 : Int32).toInt = 97 from by decide]; exact q))
  have g2 : ¬ 122 < x.toInt := fun q => h2 (Int32.lt_iff_toInt_lt.mpr (by rw [show (122 : Int32).toInt = 122 from by decide]; exact q))
  obtain ⟨m, hm, rfl⟩ := nat_of (n := 123) (i := x) (fun q => by
    have q := Int32.lt_iff_toInt_lt.mp q
    rw [show (0 : Int32).toInt = 0 from by decide] at q
    omega) (Int32.lt_iff_toInt_lt.mpr (by rw [Int32.toInt_ofNat_of_lt (by decide)]; omega)) (by decide)
  rw [Int32.toInt_ofNat_of_lt (by omega)] at g1
  rw [i_un (by omega)]
  exact ⟨by omega, by omega, by rw [show 96 + (m - 96) = m by omega]⟩
theorem nmG_pk {f : Nat → Int32} {l p w : Nat} (hw : wl f l p = w) (h6 : w ≤ 6) : ∀ (g i : Nat), g + i = 6 → i ≤ w → nmG f l p g i (Int32.ofNat (pkN (dgF f l p) i)) = Int32.ofNat (pkN (dgF f l p) w) := by
  obtain ⟨hl, he⟩ := wl_is.mp hw
  intro g
  induction g with
  | zero =>
    intro i hi hiw
    obtain rfl : i = w := by omega
    rfl
  | succ g ih =>
    intro i hi hiw
    unfold nmG
    by_cases c : i < w
    · rw [if_pos (hl i c)]
      obtain ⟨d1, d2, d3⟩ := dg_ltr (hl i c)
      have hs := sh_d ⟨dgF f l p i, by omega⟩ ⟨i, by omega⟩
      have hp := pw_lt (d := dgF f l p) i fun k hk => by
        have := dg_ltr (hl k (by omega))
        omega
      have e32 : 32 ^ i = 2 ^ (5 * i) := by rw [show (32 : Nat) = 2 ^ 5 from rfl, ← Nat.pow_mul]
      have hle : 2 ^ (5 * i) ≤ 2 ^ 25 := Nat.pow_le_pow_right (by decide) (by omega)
      have hm : 2 ^ (5 * i) * dgF f l p i ≤ 2 ^ 25 * 26 := Nat.mul_le_mul hle d2
      rw [e32] at hp
      have h25 : (2 : Nat) ^ 25 = 33554432 := by decide
      have ea : Int32.ofNat (pkN (dgF f l p) i) ||| (byt f l (p + i) - 96) <<< (5 * Int32.ofNat i &&& 31) = Int32.ofNat (pkN (dgF f l p) (i + 1)) := by
        rw [d3]
        refine (congrArg (fun z => Int32.ofNat (pkN (dgF f l p) i) ||| z) hs).trans ?_
        show Int32.ofNat (pkN (dgF f l p) i) ||| Int32.ofNat (2 ^ (5 * i) * dgF f l p i) = _
        rw [or_ad hp (by omega)]
        show _ = Int32.ofNat (pkN (dgF f l p) i + dgF f l p i * 32 ^ i)
        rw [e32, Nat.mul_comm (dgF f l p i)]
      rw [ea]
      exact ih (i + 1) (by omega) (by omega)
    · obtain rfl : i = w := by omega
      rw [if_neg (by rw [he]; decide)]
theorem nm_pk {f : Nat → Int32} {l p : Nat} (h : kdE f l p = 256) (hB : BYT f l) : 1 ≤ wl f l p ∧ wl f l p ≤ 6 ∧ nmE f l p = Int32.ofNat (pkN (dgF f l p) (wl f l p)) := by
  unfold kdE at h
  unfold nmE
  by_cases hp : p < l
  · rw [if_pos hp] at h ⊢
    have hk := h
    unfold nmT
    unfold kdF at h
    by_cases h0 : wl f l p = 0
    · rw [if_pos h0] at h
      exact absurd h (byt_256 hB (by decide) (by decide) hp)
    · rw [if_neg h0] at h ⊢
      by_cases h6 : 6 < wl f l p
      · rw [if_pos h6] at h
        exact absurd h (by decide)
      · rw [if_pos hk]
        exact ⟨by omega, by omega, nmG_pk rfl (by omega) 6 0 rfl (Nat.zero_le _)⟩
  · rw [if_neg hp] at h
    exact absurd h (by decide)
/-- a record of the reference and a name of the class -/
def NRc (G : Nat → Int32) (t : Nat) (x : Int32) : Prop := ∃ (w : Nat) (d : Nat → Nat), 1 ≤ w ∧ w ≤ 6 ∧ (∀ i, i < w → 1 ≤ d i ∧ d i ≤ 26) ∧ G t = Int32.ofNat w ∧ (∀ i, i < w → G (t + 1 + i) = Int32.ofNat (96 + d i)) ∧ x = Int32.ofNat (pkN d w)
theorem pw_b {d : Nat → Nat} {w : Nat} (h6 : w ≤ 6) (hd : ∀ i, i < w → 1 ≤ d i ∧ d i ≤ 26) : pkN d w < 4294967296 := by
  have h1 := pw_lt (d := d) w fun i hi => by
    have := hd i hi
    omega
  have h2 : 32 ^ w ≤ 32 ^ 6 := Nat.pow_le_pow_right (by decide) h6
  have h3 : (32 : Nat) ^ 6 = 1073741824 := by decide
  omega
/-- the same name -/
theorem nm_eq {G f : Nat → Int32} {l p t : Nat} {x : Int32} (hB : BYT f l) (h : kdE f l p = 256) (hR : NRc G t x) : nmB G f l p (wl f l p) t = decide (x = nmE f l p) := by
  obtain ⟨w, d, w1, w6, hd, g0, gi, hx⟩ := hR
  obtain ⟨v1, v6, hn⟩ := nm_pk h hB
  obtain ⟨hl, _⟩ := wl_is.mp (rfl : wl f l p = wl f l p)
  rw [hn, hx]
  unfold nmB
  have hb : ∀ i, i < wl f l p → 1 ≤ dgF f l p i ∧ dgF f l p i ≤ 26 := fun i hi => ⟨(dg_ltr (hl i hi)).1, (dg_ltr (hl i hi)).2.1⟩
  by_cases c : pkN d w = pkN (dgF f l p) (wl f l p)
  · obtain ⟨e1, e2⟩ := pw_inj _ _ _ _ hd hb c
    rw [decide_eq_true (congrArg Int32.ofNat c), decide_eq_true (by rw [g0, e1]), Bool.true_and]
    refine (allF_t _ _).mpr fun i _ hi => decide_eq_true ?_
    rw [gi i (by omega), e2 i (by omega), (dg_ltr (hl i (by omega))).2.2]
  · have hne : decide (Int32.ofNat (pkN d w) = Int32.ofNat (pkN (dgF f l p) (wl f l p))) = false := decide_eq_false fun q => c (by
      have := congrArg mm_un q
      rw [i_un (pw_b w6 hd), i_un (pw_b v6 hb)] at this
      exact this)
    rw [hne]
    cases c1 : decide (G t = Int32.ofNat (wl f l p)) with
    | false => rfl
    | true =>
      have e1 : w = wl f l p := i_inj (by omega) (by omega) (g0.symm.trans (of_decide_eq_true c1))
      rw [Bool.true_and]
      refine Bool.eq_false_iff.mpr fun q => c ?_
      have q := (allF_t _ _).mp q
      rw [← e1]
      refine pw_cg w fun i hi => ?_
      have q1 := of_decide_eq_true (q i (Nat.zero_le i) (by omega))
      rw [gi i hi, (dg_ltr (hl i (by omega))).2.2] at q1
      have := (hb i (by omega)).2
      have := (hd i hi).2
      have := i_inj (by omega) (by omega) q1
      omega
theorem fn_cg {g g' : Nat → Bool} : ∀ m k, (∀ i, k ≤ i → i < k + m → g i = g' i) → fnF g m k = fnF g' m k
  | 0, _, _ => rfl
  | m + 1, k, h => by
    unfold fnF
    rw [h k (Nat.le_refl k) (by omega), fn_cg m (k + 1) fun i a b => h i (by omega) (by omega)]
/-- a name is found by both at the same place -/
theorem fd_rn {G Gc f : Nat → Int32} {l p bs c : Nat} (hB : BYT f l) (h : kdE f l p = 256) (hR : ∀ k, k < c → NRc G (bs + 7 * k) (Gc k)) : fnF (fun k => nmB G f l p (wl f l p) (bs + 7 * k)) c 0 = fdF Gc c (nmE f l p) := fn_cg c 0 fun i _ hi => nm_eq hB h (hR i (by omega))
end N_h
