section N_zc
/-! ===== sets of both sides ===== -/
def bn (s : Int32) : Nat → Nat
  | 0 => 0
  | n + 1 => bn s n + if hasB s (Int32.ofNat n) = true then 1 else 0
theorem bn_le (s : Int32) : ∀ n, bn s n ≤ n
  | 0 => Nat.le_refl 0
  | n + 1 => by
    have := bn_le s n
    unfold bn
    split <;> omega
theorem bn_or {s : Int32} {i : Nat} (hi : i < 32) (h : hasB s (Int32.ofNat i) = false) : ∀ n, n ≤ 32 → bn (s ||| 1 <<< (Int32.ofNat i &&& 31)) n = bn s n + if i < n then 1 else 0
  | 0, _ => by rw [if_neg (Nat.not_lt_zero i)]; rfl
  | n + 1, hn => by
    have ih := bn_or hi h n (by omega)
    unfold bn
    rw [ih, hb_or _ _ (by omega), hb_shl (by omega) hi]
    by_cases c : n = i
    · subst c
      rw [h, decide_eq_true rfl, if_neg (Nat.lt_irrefl n), if_pos (Nat.lt_succ_self n)]
      rfl
    · rw [decide_eq_false c, Bool.or_false]
      by_cases c2 : i < n
      · rw [if_pos c2, if_pos (show i < n + 1 by omega)]
        omega
      · rw [if_neg c2, if_neg (show ¬ i < n + 1 by omega)]
        omega
theorem rf_bad {G f : Nat → Int32} {l nf : Nat} {s : Int32} {T : hP} (h : ¬ er T = 0) : ∀ g, ¬ er (rfF G f l nf g s T).2 = 0
  | 0 => h
  | g + 1 => by
    unfold rfF
    rw [if_neg (fun z => h z.1)]
    exact h
theorem re_nx {f : Nat → Int32} {l p : Nat} {T : hP} (h : RE f l p false T) : RE f l p false (nxP f l T) := by
  obtain ⟨hp, hT⟩ := h.2 rfl
  exact RE.g (show er (nxP f l T) = 0 from h.1.mpr rfl) (show p = sk f l (sk f l T.1) from by rw [sk_sk]; exact hp) (sk_lt hT).2
/-- a set read: an error on both sides; or the class goes on at a word that is no name, and the reference has an error; or both go on behind the set -/
def TSR (f : Nat → Int32) (l : Nat) (r : Int32 × Nat × Bool) (R : Int32 × hP) : Prop := (r.2.2 = true ∧ ¬ er R.2 = 0) ∨ (r.2.2 = false ∧ ¬ wl f l r.2.1 = 0 ∧ ¬ kdE f l r.2.1 = 256 ∧ ¬ er R.2 = 0) ∨ (r.2.2 = false ∧ wl f l r.2.1 = 0 ∧ R.1 = r.1 ∧ RE f l r.2.1 false R.2)
theorem re_ts {G Gc f : Nat → Int32} {l c : Nat} (hB : BYT f l) (h5 : c ≤ 5) (hR : ∀ k, k < c → NRc G (80 + 7 * k) (Gc k)) : ∀ (g : Nat) (s : Int32) (p : Nat) (T : hP) (g' : Nat), bn s c + g = c + 1 → RE f l p false T → l + 1 ≤ g' + T.1 → TSR f l (tsF f l Gc c g s p) (rfF G f l c g' s T)
  | 0, s, p, T, g', hb, h, hg => by
    have := bn_le s c
    omega
  | g + 1, s, p, T, g', hb, h, hg => by
    obtain ⟨hp, hT⟩ := h.2 rfl
    obtain ⟨g2, rfl⟩ : ∃ g2, g' = g2 + 1 := ⟨g' - 1, by omega⟩
    have e0 := h.1.mpr rfl
    have hN := re_nx h
    obtain ⟨k1, k2⟩ := re_kn (bs := 80) hB hN hR
    have hw : wn f l T.1 = wl f l p := by rw [hp]
    unfold tsF rfF
    obtain ⟨K, hK⟩ : ∃ K, knP G f l 80 c (nxP f l T) = K := ⟨_, rfl⟩
    have hpr : er K.2 = 0 → sk f l T.1 + 1 ≤ K.2.1 := fun z => by
      rw [← hK] at z ⊢
      exact kn_go z ⟨Nat.le_succ_of_le (hN.2 rfl).2, fun _ => (hN.2 rfl).2⟩
    rw [hK] at k1 k2 ⊢
    have bad : ∀ s2 : Int32, ¬ er (muP (rfx s K) 2 K.2) = 0 → ¬ er (rfF G f l c g2 s2 (muP (rfx s K) 2 K.2)).2 = 0 := fun s2 z => rf_bad z g2
    by_cases k : kdE f l p = 256
    · have hw0 := kd_w hB k
      rw [if_pos k, if_pos (show er T = 0 ∧ 0 < wn f l T.1 from ⟨e0, by rw [hw]; omega⟩)]
      have hkw : kwN f l p Gc c = fdF Gc c (nmE f l p) := if_pos k
      rw [hkw] at k1 k2
      by_cases c1 : fdF Gc c (nmE f l p) = -1
      · rw [if_pos (Or.inl c1)]
        rw [decide_eq_true c1] at k1
        have hx : ¬ er K.2 = 0 := fun z => by cases k1.1.mp z
        exact Or.inl ⟨rfl, bad _ fun z => hx (mu_er (by decide) z)⟩
      · rw [decide_eq_false c1, if_neg c1] at k1
        have hk := k2 c1
        have hx : er K.2 = 0 := k1.1.mpr rfl
        by_cases c2 : hasB s (fdF Gc c (nmE f l p)) = true
        · rw [if_pos (Or.inr c2)]
          refine Or.inl ⟨rfl, bad _ ?_⟩
          have hr : rfx s K = 0 := by
            unfold rfx
            rw [hk, c2, if_neg (fun z => by cases z.2), if_pos hx]
          rw [hr, er_mu0 hx]
          decide
        · rw [if_neg (fun z => z.elim c1 c2)]
          have hr : rfx s K = 1 := by
            unfold rfx
            rw [hk, if_pos ⟨hx, Bool.eq_false_iff.mpr c2⟩]
          rw [hr]
          have e9 : er (muP 1 2 K.2) = 0 := by rw [er_mu1]; exact hx
          rw [if_pos e9, hk]
          have hRE : RE f l (nxE f l p) false (muP 1 2 K.2) := ⟨⟨fun _ => rfl, fun _ => e9⟩, k1.2⟩
          refine re_ts hB h5 hR g _ _ _ g2 ?_ hRE ?_
          · rcases fd_lt (fun i => decide (Gc i = nmE f l p)) c 0 with q | ⟨i, i0, i1, _, e⟩
            · exact absurd q c1
            · have e : fdF Gc c (nmE f l p) = Int32.ofNat i := e
              rw [e] at c2 ⊢
              rw [bn_or (by omega) (Bool.eq_false_iff.mpr c2) c (by omega), if_pos (by omega)]
              omega
          · have h9 := hpr hx
            have := (sk_lt (f := f) hT).1
            show l + 1 ≤ g2 + K.2.1
            omega
    · rw [if_neg k]
      by_cases w0 : wl f l p = 0
      · rw [if_neg (show ¬ (er T = 0 ∧ 0 < wn f l T.1) from fun z => by rw [hw] at z; omega)]
        exact Or.inr (Or.inr ⟨rfl, w0, rfl, hN⟩)
      · rw [if_pos (show er T = 0 ∧ 0 < wn f l T.1 from ⟨e0, by rw [hw]; omega⟩)]
        have hkw : kwN f l p Gc c = -1 := if_neg k
        rw [hkw, decide_eq_true rfl] at k1
        have hx : ¬ er K.2 = 0 := fun z => by cases k1.1.mp z
        exact Or.inr (Or.inl ⟨rfl, w0, k, bad _ fun z => hx (mu_er (by decide) z)⟩)
end N_zc
