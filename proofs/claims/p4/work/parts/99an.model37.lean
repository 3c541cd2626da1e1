section M37
/-! ===== the reference: what an act leaves as it is ===== -/
def FrA (V W : hV) : Prop := (∀ a, a ≠ 313 → a ≠ 318 → W.1 a = V.1 a) ∧ (∀ k, k < 2 ∨ (3 ≤ k ∧ k < 6) ∨ (76 ≤ k ∧ k < 160) ∨ 320 ≤ k → W.1 313 k = V.1 313 k) ∧ ((∃ n : Nat, n ≤ 20 ∧ V.1 313 6 = Int32.ofNat n) → ∃ n : Nat, n ≤ 20 ∧ W.1 313 6 = Int32.ofNat n)
theorem FrA.r (V : hV) : FrA V V := ⟨fun _ _ _ => rfl, fun _ _ => rfl, fun h => h⟩
theorem FrA.t {A B C : hV} (h1 : FrA A B) (h2 : FrA B C) : FrA A C := ⟨fun a z1 z2 => (h2.1 a z1 z2).trans (h1.1 a z1 z2), fun k z => (h2.2.1 k z).trans (h1.2.1 k z), fun h => h2.2.2 (h1.2.2 h)⟩
theorem fa_ask {V : hV} {n f b k : Nat} : FrA V (askF V n f b k) := ⟨fun a _ h => funext fun j => askF_ne V n f b h j k, fun j _ => askF_ne V n f b (by decide) j k, fun ⟨m, h1, h2⟩ => ⟨m, h1, (askF_ne V n f b (by decide) 6 k).trans h2⟩⟩
theorem fa_up {V : hV} {k : Nat} {x : Int32} (h : k = 2 ∨ (7 ≤ k ∧ k < 76) ∨ (160 ≤ k ∧ k < 320)) : FrA V (up V 313 k x) := ⟨fun a h1 _ => funext fun j => up_ne _ _ (Or.inl h1), fun j hj => up_ne _ _ (Or.inr (by omega)), fun ⟨n, h1, h2⟩ => ⟨n, h1, (up_ne _ _ (Or.inr (by omega))).trans h2⟩⟩
theorem fa_ov {V : hV} {g : Nat → Option Int32} (h : ∀ j, j < 2 ∨ (3 ≤ j ∧ j < 7) ∨ (76 ≤ j ∧ j < 160) ∨ 320 ≤ j → g j = none) : FrA V (ovr V 313 g) := ⟨fun a h1 _ => funext fun j => ovr_ne V g h1 j, fun j hj => ovr_none V (h j (by omega)), fun ⟨n, h1, h2⟩ => ⟨n, h1, (ovr_none V (h 6 (by omega))).trans h2⟩⟩
theorem fa_gr {V : hV} {k : Nat} {x : Int32} (h : k < 8) : FrA V (grV V k x) := fa_up (by omega)
theorem fa_ru {V : hV} {x : Int32} : FrA V (ruV V x) := FrA.t (fa_up (Or.inl rfl)) (fa_gr (by decide))
theorem fa_no {V : hV} {a b c : Int32} : FrA V (noW V a b c) := by
  have h1 : FrA V (noH V 3) := fa_ov fun j hj => if_neg (by omega)
  have h2 : FrA V (up (up (up (noH V 3) 313 16 a) 313 17 b) 313 18 c) := ((h1.t (fa_up (by omega))).t (fa_up (by omega))).t (fa_up (by omega))
  refine ⟨fun z h3 h4 => ?_, fun j hj => ?_, fun ⟨n, h3, h4⟩ => ?_⟩
  · exact (funext fun j => up_ne _ _ (Or.inl h3)).trans (h2.1 z h3 h4)
  · exact (up_ne _ _ (Or.inr (by omega))).trans (h2.2.1 j hj)
  · have e : (noW V a b c).1 313 6 = (if V.1 313 6 + 1 < 20 then V.1 313 6 + 1 else 20) := up_eq _ _ _ _
    rw [e, h4, i_succ]
    by_cases q : n + 1 < 20
    · exact ⟨n + 1, by omega, if_pos (i_lt (n := 20) q (by decide))⟩
    · exact ⟨20, Nat.le_refl _, if_neg (i_nlt (n := 20) (by omega) (by omega))⟩
theorem fa_pa {V : hV} {p : Nat} {x : Int32} (hp : p < 5) : FrA V (paV V p x) := FrA.t (fa_ov fun j hj => if_neg (by omega)) (fa_gr (by decide))
theorem fa_ac {V : hV} {x w : Int32} {k : Nat} (h : k < 8) : FrA V (acV V x k w) := (fa_ru.t (fa_gr h)).t fa_no
theorem fa_an {V : hV} {ar n b m : Nat} : FrA V (anF V ar n b m).2 := by
  unfold anF
  split
  · exact fa_ask.t (fa_ac (by decide))
  · exact fa_ask
theorem fa_sa {V : hV} {ar p n b m : Nat} : FrA V (saF V ar p n b m).2 := by
  unfold saF
  split
  · split
    · exact fa_ask.t (fa_ac (by decide))
    · exact fa_ask
  · exact fa_ask
theorem fa_wh {A : hV} {x set : Int32} : ∀ p, p ≤ 5 → FrA A (whF A x set p).2
  | 0, _ => FrA.r A
  | p + 1, h => by
    rw [whF.eq_2]
    split
    · exact (fa_wh p (by omega)).t (fa_pa (by omega))
    · exact fa_wh p (by omega)
theorem fa_whV {A : hV} {x set : Int32} {n : Nat} (h : n ≤ 5) : FrA A (whV A x set n) := ((fa_wh n h).t (fa_gr (by decide))).t fa_no
theorem fa_sh {V : hV} {p : Nat} {fact : Int32} (hp : p < 5) : FrA V (shV V p fact) := ((fa_pa hp).t (fa_gr (by decide))).t fa_no
theorem fa_ro {V : hV} {n rw : Nat} {fact : Int32} : FrA V (roV V n rw fact) := fa_ac (by decide)
theorem fa_do {V : hV} {n rw i m kd : Nat} (h5 : n ≤ 5) (hp : kd = 1 ∨ kd = 3 → mm_un (V.1 321 (3 * i + 1)) < 5) : FrA V (doF V n rw i m kd).2 := by
  unfold doF
  split
  · exact fa_an
  · exact fa_sa
  · exact fa_ask.t (fa_whV h5)
  · exact fa_sh (hp (Or.inr rfl))
  · exact fa_ro
theorem FOK.cg {V W : hV} {n f b m g c : Nat} (h : FOK V n f b m) (e : ∀ k, k < 241 → W.1 g (c + k) = V.1 f (b + k)) : FOK W n g c m := by
  obtain ⟨h1, h2, h3, h4⟩ := h
  refine ⟨(e 0 (by decide)).trans h1, h2, h3, fun k hk => ?_⟩
  obtain ⟨kn, x, y, e1, e2, e3, e4⟩ := h4 k hk
  have q1 := e (1 + 4 * k) (by omega)
  have q2 := e (1 + 4 * k + 1) (by omega)
  have q3 := e (1 + 4 * k + 2) (by omega)
  simp only [← Nat.add_assoc] at q1 q2 q3
  exact ⟨kn, x, y, q1.trans e1, q2.trans e2, q3.trans e3, e4⟩
/-- a formula that was read: its nodes, and that they are a tree -/
def TF (F : Nat → Int32) (b np nf m : Nat) : Prop := F b = Int32.ofNat m ∧ 1 ≤ m ∧ m ≤ 60 ∧ (∀ k, k < m → Nd F b np nf k) ∧ Tr F b 0 (m - 1)
theorem TF.cg {F F' : Nat → Int32} {b c np nf m : Nat} (h : TF F b np nf m) (e : ∀ k, k < 241 → F' (c + k) = F (b + k)) : TF F' c np nf m := by
  obtain ⟨h1, h2, h3, h4, g, h5⟩ := h
  refine ⟨(e 0 (by decide)).trans h1, h2, h3, fun k hk => ?_, g, h5.cg fun j j1 j2 => e j (by omega)⟩
  obtain ⟨kn, x, y, e1, e2, e3, e4⟩ := h4 k hk
  have q1 := e (1 + 4 * k) (by omega)
  have q2 := e (1 + 4 * k + 1) (by omega)
  have q3 := e (1 + 4 * k + 2) (by omega)
  simp only [← Nat.add_assoc] at q1 q2 q3
  exact ⟨kn, x, y, q1.trans e1, q2.trans e2, q3.trans e3, e4⟩
theorem TF.fok {V : hV} {a bs np nf m n : Nat} (h : TF (V.1 a) bs np nf m) (hp : np ≤ 5) (hf : nf ≤ 5) : FOK V n a bs m := fok_ni (q := (V.1 a, m, 0, (0, 0, 0, 0, 0))) rfl ⟨h.1, Nat.le_refl _, h.2.2.1, h.2.2.2.1⟩ h.2.1 hp hf
theorem rf_tree {S : ww_S} {sh : List mm_C} {V : hV} {T : hP} (hM : MS sh) {f : Nat → Int32} {l : Nat} (hT : TX V f l) (hO : TO l T) {G : Nat → Int32} (hg : V.1 313 = G) {np nf : Nat} (hnp : G 1 = Int32.ofNat np) (h5 : np ≤ 5) (hnf : G 0 = Int32.ofNat nf) (h5f : nf ≤ 5) {j : Nat} (hj : j ≤ 20) {b : Bool} {F : Nat → Int32} (h : er (rfQ G f l (241 * j) b np nf F T).2.2.2 = 0) : er T = 0 ∧ (∃ m : Nat, TF (rfQ G f l (241 * j) b np nf F T).1 (241 * j) np nf m) ∧ ∀ k, k < 241 * j ∨ 241 * j + 241 ≤ k → (rfQ G f l (241 * j) b np nf F T).1 k = F k := by
  have hC : RC (fxV V (241 * j) b) G f l (241 * j) b np nf := ⟨hT, hg, hnp, h5, hnf, h5f, rfl, by omega, rfl⟩
  have hq : OKq l (241 * j) ((fun k => if k = 241 * j then 0 else F k, 0, 0, T) : hQ) := ⟨hO.1, hO.2, Nat.zero_le _, fun _ => Nat.zero_le _, Nat.zero_le _, 0, if_pos rfl, Nat.zero_le _⟩
  have h1 := hO.1
  obtain ⟨h2, h3⟩ := (nd_ok (S := S) hM hC (4 * (l + 2) + 3)).2.2.1 0 _ hq (show 4 * (l + 2 - T.1) + 3 ≤ 4 * (l + 2) + 3 by omega) h
  obtain ⟨m, g1, g2, g3, g4, g5, g6⟩ := h3 0 ⟨if_pos rfl, Nat.le_refl _, Nat.zero_le _, fun k hk => absurd hk (Nat.not_lt_zero k)⟩
  refine ⟨h2, ⟨m, g1.1, g2, Nat.le_trans g1.2.1 g1.2.2.1, g1.2.2.2, g6⟩, fun k hk => (g5 k (by omega) (by omega)).trans (if_neg (by omega))⟩
end M37
