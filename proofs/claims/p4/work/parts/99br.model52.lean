section M52
/-! ===== the reference: a state in order, and that acts keep it so ===== -/
def SO (g : Nat → Int32) : Prop := ∃ nf np rw lg m c : Nat, g 0 = Int32.ofNat nf ∧ nf ≤ 5 ∧ g 1 = Int32.ofNat np ∧ 1 ≤ np ∧ np ≤ 5 ∧ g 4 = Int32.ofNat rw ∧ rw < 32 ∧ g 6 = Int32.ofNat lg ∧ lg ≤ 20 ∧ g 3 = Int32.ofNat c ∧ 1 ≤ c ∧ c ≤ 32 ∧ TF g 320 np nf m ∧ (∀ i, i < 5 → (∃ w, w ≤ 6 ∧ g (80 + 7 * i) = Int32.ofNat w) ∧ ∃ w, w ≤ 6 ∧ g (115 + 7 * i) = Int32.ofNat w) ∧ hasB (g 2) (g 4) = true ∧ ∀ p w, p < np → w < 32 → hasB (g 2) (Int32.ofNat w) = true → hasB (g (160 + 32 * p + w)) (Int32.ofNat w) = true
theorem SO.cg {g g' : Nat → Int32} (e : ∀ k, k < 564 → g' k = g k) (h : SO g) : SO g' := by
  obtain ⟨nf, np, rw, lg, m, c, h1, h2, h3, h4, h5, h6, h7, h8, h9, h10, h11, h12, h13, h14, h15, h16⟩ := h
  refine ⟨nf, np, rw, lg, m, c, (e 0 (by decide)).trans h1, h2, (e 1 (by decide)).trans h3, h4, h5, (e 4 (by decide)).trans h6, h7, (e 6 (by decide)).trans h8, h9, (e 3 (by decide)).trans h10, h11, h12, h13.cg fun k hk => e _ (by omega), fun i hi => ?_, ?_, fun p w hp hw hh => ?_⟩
  · obtain ⟨⟨w1, a1, b1⟩, w2, a2, b2⟩ := h14 i hi
    exact ⟨⟨w1, a1, (e _ (by omega)).trans b1⟩, w2, a2, (e _ (by omega)).trans b2⟩
  · rw [e 2 (by decide), e 4 (by decide)]
    exact h15
  · rw [e 2 (by decide)] at hh
    rw [e _ (by omega)]
    exact h16 p w hp hw hh
def FrS (V W : hV) : Prop := FrA V W ∧ (∀ n, n ≤ 5 → RFL V n → RFL W n) ∧ (hasB (V.1 313 2) (V.1 313 4) = true → hasB (W.1 313 2) (V.1 313 4) = true)
theorem FrS.r (V : hV) : FrS V V := ⟨FrA.r V, fun _ _ h => h, fun h => h⟩
theorem FrS.t {A B C : hV} (h1 : FrS A B) (h2 : FrS B C) : FrS A C := by
  refine ⟨h1.1.t h2.1, fun n hn h => h2.2.1 n hn (h1.2.1 n hn h), fun h => ?_⟩
  have e : B.1 313 4 = A.1 313 4 := h1.1.2.1 4 (by omega)
  have h3 := h2.2.2
  rw [e] at h3
  exact h3 (h1.2.2 h)
theorem fs_A {V W : hV} (f : FrA V W) (h : ∀ k, k = 2 ∨ (160 ≤ k ∧ k < 320) → W.1 313 k = V.1 313 k) : FrS V W := by
  refine ⟨f, fun n hn hr p w hp hw hh => ?_, fun hh => ?_⟩
  · rw [h 2 (Or.inl rfl)] at hh
    rw [h (160 + 32 * p + w) (by omega)]
    exact hr p w hp hw hh
  · rw [h 2 (Or.inl rfl)]
    exact hh
theorem fs_ask {V : hV} {n f b k : Nat} : FrS V (askF V n f b k) := fs_A fa_ask fun j _ => congrFun ask_313 j
theorem fs_gr {V : hV} {k : Nat} {x : Int32} (h : k < 8) : FrS V (grV V k x) := fs_A (fa_gr h) fun j hj => up_ne _ _ (Or.inr (by omega))
theorem fs_no {V : hV} {a b c : Int32} : FrS V (noW V a b c) := fs_A fa_no fun j hj => (up_ne _ _ (Or.inr (by omega))).trans ((up_ne _ _ (Or.inr (by omega))).trans ((up_ne _ _ (Or.inr (by omega))).trans ((up_ne _ _ (Or.inr (by omega))).trans (ovr_none V (if_neg (by omega))))))
theorem fs_ru {V : hV} {x : Int32} {rw : Nat} (hr : V.1 313 4 = Int32.ofNat rw) (h32 : rw < 32) (hx : hasB x (Int32.ofNat rw) = true) : FrS V (ruV V x) := by
  have e2 : (ruV V x).1 313 2 = V.1 313 2 &&& x := (up_ne _ _ (Or.inr (by decide))).trans (up_eq _ _ _ _)
  refine ⟨fa_ru, fun n hn hrf p w hp hw hh => ?_, fun hh => ?_⟩
  · rw [e2, hb_and _ _ hw, Bool.and_eq_true] at hh
    have e3 : (ruV V x).1 313 (160 + 32 * p + w) = V.1 313 (160 + 32 * p + w) := (up_ne _ _ (Or.inr (by omega))).trans (up_ne _ _ (Or.inr (by omega)))
    rw [e3]
    exact hrf p w hp hw hh.1
  · rw [hr] at hh ⊢
    rw [e2, hb_and _ _ h32, hh, hx]
    rfl
theorem fs_ac {V : hV} {x w : Int32} {k rw : Nat} (hk : k < 8) (hr : V.1 313 4 = Int32.ofNat rw) (h32 : rw < 32) (hx : hasB x (Int32.ofNat rw) = true) : FrS V (acV V x k w) := ((fs_ru hr h32 hx).t (fs_gr hk)).t fs_no
theorem fs_pa {V : hV} {p : Nat} {x : Int32} (hp : p < 5) : FrS V (paV V p x) := by
  have e2 : (paV V p x).1 313 2 = V.1 313 2 := (up_ne _ _ (Or.inr (by decide))).trans (ovr_none V (if_neg (by omega)))
  refine ⟨fa_pa hp, fun n hn hrf q w hq hw hh => ?_, fun hh => by rw [e2]; exact hh⟩
  rw [e2] at hh
  have h1 := hrf q w hq hw hh
  have e3 : (paV V p x).1 313 (160 + 32 * q + w) = (paH V p x 32).1 313 (160 + 32 * q + w) := up_ne _ _ (Or.inr (by omega))
  rw [e3]
  by_cases e : q = p
  · subst e
    have e4 : (paH V q x 32).1 313 (160 + 32 * q + w) = V.1 313 (160 + 32 * q + w) &&& (if hasB x (Int32.ofNat (160 + 32 * q + w - (160 + 32 * q))) = true then x else x ^^^ -1) := ovr_some V (if_pos ⟨by omega, by omega⟩)
    rw [e4, show 160 + 32 * q + w - (160 + 32 * q) = w by omega, hb_and _ _ hw, h1, Bool.true_and]
    by_cases c : hasB x (Int32.ofNat w) = true
    · rw [if_pos c]
      exact c
    · rw [if_neg c, hb_not _ hw, Bool.eq_false_iff.mpr c]
      rfl
  · have e4 : (paH V p x 32).1 313 (160 + 32 * q + w) = V.1 313 (160 + 32 * q + w) := ovr_none V (if_neg (by omega))
    rw [e4]
    exact h1
theorem fs_wh {A : hV} {x set : Int32} : ∀ p, p ≤ 5 → FrS A (whF A x set p).2
  | 0, _ => FrS.r A
  | p + 1, h => by
    rw [whF.eq_2]
    split
    · exact (fs_wh p (by omega)).t (fs_pa (by omega))
    · exact fs_wh p (by omega)
theorem fs_whV {A : hV} {x set : Int32} {n : Nat} (h : n ≤ 5) : FrS A (whV A x set n) := ((fs_wh n h).t (fs_gr (by decide))).t fs_no
theorem fs_sh {V : hV} {p : Nat} {fact : Int32} (hp : p < 5) : FrS V (shV V p fact) := ((fs_pa hp).t (fs_gr (by decide))).t fs_no
theorem fs_an {V : hV} {ar n b m rw : Nat} (hr : V.1 313 4 = Int32.ofNat rw) (h32 : rw < 32) : FrS V (anF V ar n b m).2 := by
  unfold anF
  split
  · rename_i c
    rw [hr] at c
    exact fs_ask.t (fs_ac (by decide) ((congrFun ask_313 4).trans hr) h32 c)
  · exact fs_ask
theorem fs_sa {V : hV} {ar p n b m rw : Nat} (hr : V.1 313 4 = Int32.ofNat rw) (h32 : rw < 32) : FrS V (saF V ar p n b m).2 := by
  unfold saF
  split
  · split
    · rename_i c
      rw [hr] at c
      exact fs_ask.t (fs_ac (by decide) ((congrFun ask_313 4).trans hr) h32 c)
    · exact fs_ask
  · exact fs_ask
theorem ro_orF {V : hV} {n : Nat} {set k : Int32} : ∀ m, roF V n set k m = orF (fun w => decide (isl V w = true ∧ kwF V w set n = k)) m
  | 0 => rfl
  | m + 1 => by
    rw [roF.eq_2, orF.eq_2, ro_orF m]
    by_cases c : isl V m = true ∧ kwF V m set n = k
    · rw [if_pos c, decide_eq_true c]
      rfl
    · rw [if_neg c, decide_eq_false c]
      rfl
theorem fs_ro {V : hV} {n rw : Nat} {fact : Int32} (hr : V.1 313 4 = Int32.ofNat rw) (h32 : rw < 32) (hl : hasB (V.1 313 2) (V.1 313 4) = true) : FrS V (roV V n rw fact) := by
  refine fs_ac (by decide) hr h32 ?_
  rw [ro_orF, hb_o32 h32]
  rw [hr] at hl
  exact decide_eq_true ⟨hl, rfl⟩
theorem fs_do {V : hV} {n rw i m kd : Nat} (h5 : n ≤ 5) (hp : kd = 1 ∨ kd = 3 → mm_un (V.1 321 (3 * i + 1)) < 5) (hr : V.1 313 4 = Int32.ofNat rw) (h32 : rw < 32) (hl : hasB (V.1 313 2) (V.1 313 4) = true) : FrS V (doF V n rw i m kd).2 := by
  unfold doF
  split
  · exact fs_an hr h32
  · exact fs_sa hr h32
  · exact fs_ask.t (fs_whV h5)
  · exact fs_sh (hp (Or.inr rfl))
  · exact fs_ro hr h32 hl
theorem fs_ru2 {n nf rw c : Nat} (h5 : n ≤ 5) (h32 : rw < 32) : ∀ (g i : Nat) (V : hV), g + i = c → (∀ i, i < c → ORD V n nf i) → V.1 313 4 = Int32.ofNat rw → hasB (V.1 313 2) (V.1 313 4) = true → FrS V (ruL n rw g i V).2
  | 0, i, V, _, _, _, _ => FrS.r V
  | g + 1, i, V, hg, ho, hr, hl => by
    have hf : FrS V (doG V n rw i).2 := by
      obtain ⟨kd, h4, hk, hp, hF⟩ := ho i (by omega)
      have hu : mm_un (V.1 321 (3 * i)) = kd := by rw [hk]; exact i_un (by omega)
      unfold doG
      rw [hu]
      exact fs_do h5 hp hr h32 hl
    have e4 : (doG V n rw i).2.1 313 4 = V.1 313 4 := hf.1.2.1 4 (by omega)
    rw [ruL.eq_2]
    split
    · exact hf
    · exact hf.t (fs_ru2 h5 h32 g (i + 1) _ (by omega) (fun k hk => ord_cg (hf.1.1 321 (by decide) (by decide)) (hf.1.1 320 (by decide) (by decide)) (ho k hk)) (e4.trans hr) (by rw [e4]; exact hf.2.2 hl))
theorem SO.fs {V W : hV} (f : FrS V W) (h : SO (V.1 313)) : SO (W.1 313) := by
  obtain ⟨nf, np, rw, lg, m, c, h1, h2, h3, h4, h5, h6, h7, h8, h9, h10, h11, h12, h13, h14, h15, h16⟩ := h
  have e := f.1.2.1
  obtain ⟨lg2, g1, g2⟩ := f.1.2.2 ⟨lg, h9, h8⟩
  refine ⟨nf, np, rw, lg2, m, c, (e 0 (by omega)).trans h1, h2, (e 1 (by omega)).trans h3, h4, h5, (e 4 (by omega)).trans h6, h7, g2, g1, (e 3 (by omega)).trans h10, h11, h12, h13.cg fun k hk => e _ (by omega), fun i hi => ?_, ?_, f.2.1 np h5 h16⟩
  · obtain ⟨⟨w1, a1, b1⟩, w2, a2, b2⟩ := h14 i hi
    exact ⟨⟨w1, a1, (e _ (by omega)).trans b1⟩, w2, a2, (e _ (by omega)).trans b2⟩
  · rw [e 4 (by omega)]
    exact f.2.2 h15
def PI (V : hV) (pm : Nat) : Prop := ∀ q, q < pm → SO (fun j => V.1 317 (564 * q + j))
theorem PI.cg {V W : hV} {pm : Nat} (h : PI V pm) (e : W.1 317 = V.1 317) : PI W pm := by
  intro q hq
  rw [e]
  exact h q hq
theorem ke_pi {V : hV} {ar pm : Nat} (h : PI V pm) (h8 : pm ≤ 8) (ha : ar ≠ 317) (ha2 : ar ≠ 312) (hs : SO (V.1 ar)) : PI (keW ar V pm) (keQ pm + 1) := by
  obtain ⟨U, hU⟩ : ∃ U, (if pm = 8 then up (keS V 3948) 312 5 7 else V) = U := ⟨_, rfl⟩
  have e1 : ∀ k, (keW ar V pm).1 317 k = (cpV U ar 0 317 (564 * keQ pm) 564).1 317 k := fun k => by
    unfold keW
    rw [hU]
    exact up_ne _ _ (Or.inl (by decide))
  have eA : U.1 ar = V.1 ar := by
    rw [← hU]
    split
    · exact (funext fun j => up_ne _ _ (Or.inl ha2)).trans (funext fun j => ovr_ne V _ ha j)
    · rfl
  intro q hq
  by_cases e : q = keQ pm
  · refine SO.cg (g := V.1 ar) (fun k hk => ?_) hs
    rw [e1, e]
    have e2 : (cpV U ar 0 317 (564 * keQ pm) 564).1 317 (564 * keQ pm + k) = U.1 ar (0 + (564 * keQ pm + k - 564 * keQ pm)) := ovr_some U (if_pos ⟨by omega, by omega⟩)
    rw [e2, show 0 + (564 * keQ pm + k - 564 * keQ pm) = k by omega, eA]
  · have e2 : ∀ k, k < 564 → (cpV U ar 0 317 (564 * keQ pm) 564).1 317 (564 * q + k) = U.1 317 (564 * q + k) := fun k hk => ovr_none U (if_neg (by omega))
    by_cases p8 : pm = 8
    · have hQ : keQ pm = 7 := if_pos p8
      refine SO.cg (fun k hk => ?_) (h (q + 1) (by omega))
      rw [e1, e2 k hk, ← hU, if_pos p8]
      refine (up_ne _ _ (Or.inl (by decide))).trans ((ovr_some V (if_pos (by omega))).trans ?_)
      show V.1 317 (564 * q + k + 564) = V.1 317 (564 * (q + 1) + k)
      rw [show 564 * q + k + 564 = 564 * (q + 1) + k by omega]
    · have hQ : keQ pm = pm := if_neg p8
      refine SO.cg (fun k hk => ?_) (h q (by omega))
      rw [e1, e2 k hk, ← hU, if_neg p8]
theorem keQ_le {pm : Nat} (h : pm ≤ 8) : keQ pm + 1 ≤ 8 := by
  unfold keQ
  split <;> omega
theorem kw_ne {W : hV} {ar pm a : Nat} (h1 : a ≠ 312) (h2 : a ≠ 317) : (keW ar W pm).1 a = W.1 a := by
  unfold keW
  refine (funext fun j => up_ne _ _ (Or.inl h1)).trans ((funext fun j => ovr_ne _ _ h2 j).trans ?_)
  split
  · exact (funext fun j => up_ne _ _ (Or.inl h1)).trans (funext fun j => ovr_ne _ _ h2 j)
  · rfl
theorem kw_312 {W : hV} {ar pm k : Nat} (h : k ≠ 5) : (keW ar W pm).1 312 k = W.1 312 k := by
  unfold keW
  refine (up_ne _ _ (Or.inr h)).trans ((ovr_ne _ _ (by decide) k).trans ?_)
  split
  · exact (up_ne _ _ (Or.inr h)).trans (ovr_ne _ _ (by decide) k)
  · rfl
/-- the reference between two calls -/
def RI (V : hV) : Prop := ∃ l pm ol : Nat, ∃ b : Bool, V.1 312 10 = Int32.ofNat l ∧ l ≤ 600 ∧ V.1 312 5 = Int32.ofNat pm ∧ pm ≤ 8 ∧ V.1 312 26 = Int32.ofNat ol ∧ ol ≤ 2000 ∧ V.1 312 7 = bI b ∧ (b = true → SO (V.1 314)) ∧ SO (V.1 313) ∧ PI V pm
theorem RI.q {V W : hV} (f : FrQ V W) (h : RI V) : RI W := by
  obtain ⟨l, pm, ol, b, h1, h2, h3, h4, h5, h6, h7, h8, h9, h10⟩ := h
  refine ⟨l, pm, ol, b, (f.2.2 10 (by decide)).trans h1, h2, (f.2.2 5 (by decide)).trans h3, h4, (f.2.2 26 (by decide)).trans h5, h6, (f.2.2 7 (by decide)).trans h7, fun z => ?_, SO.cg (fun k hk => f.2.1 k hk) h9, h10.cg (f.1 317 (by decide) (by decide) (by decide) (by decide))⟩
  rw [f.1 314 (by decide) (by decide) (by decide) (by decide)]
  exact h8 z
/-- the reference writes its own cells alone, and not the input -/
def Fz (V W : hV) : Prop := ∀ a, (a < 312 ∨ 322 < a) ∨ a = 319 → W.1 a = V.1 a
theorem Fz.y {V W : hV} (h : Fz V W) : ∀ a, a < 312 ∨ 322 < a → W.1 a = V.1 a := fun a q => h a (Or.inl q)
theorem Fz.t {A B C : hV} (h1 : Fz A B) (h2 : Fz B C) : Fz A C := fun a h => (h2 a h).trans (h1 a h)
theorem FrQ.z {V W : hV} (f : FrQ V W) : Fz V W := fun a h => f.1 a (by omega) (by omega) (by omega) (by omega)
theorem fz_up {V : hV} {a k : Nat} {x : Int32} (h1 : 312 ≤ a) (h2 : a ≤ 322 ∧ a ≠ 319) : Fz V (up V a k x) := fun b h => funext fun j => up_ne _ _ (Or.inl (by omega))
theorem fz_cp {V : hV} {f i t j n : Nat} (h1 : 312 ≤ t) (h2 : t ≤ 322 ∧ t ≠ 319) : Fz V (cpV V f i t j n) := fun b h => funext fun k => ovr_ne V _ (by omega) k
/-- an answer, and the reference in order again; L: the input's length -/
def rP (sh : List mm_C) (V : hV) (L : Int32) : mm_V → mm_H → Prop := fun v g => ∃ (x : Int32) (W : hV), v = .inl (some (.int x)) ∧ g = hH sh W ∧ RI W ∧ W.1 312 10 = L ∧ Fz V W
theorem q_rP {S : ww_S} {sh : List mm_C} {V : hV} {D j : Nat} {as : List Value} (h : RI V) (e : EVQ S D j as (hH sh V) (qI sh V)) : EVQ S D j as (hH sh V) (rP sh V (V.1 312 10)) := e.imp fun _ _ ⟨x, W, h1, h2, f⟩ => ⟨x, W, h1, h2, RI.q f h, f.2.2 10 (by decide), f.z⟩
theorem act_ri {V U B : hV} (h : RI V) (f : FrQ V U) (g : FrS (cpV U 313 0 315 0 564) B) : ∃ pm : Nat, pm ≤ 8 ∧ B.1 312 5 = Int32.ofNat pm ∧ RI B ∧ RI (keW 315 B pm) ∧ B.1 312 10 = V.1 312 10 ∧ (keW 315 B pm).1 312 10 = V.1 312 10 ∧ Fz V B ∧ Fz V (keW 315 B pm) := by
  have hU := RI.q f h
  obtain ⟨l, pm, ol, b, h1, h2, h3, h4, h5, h6, h7, h8, h9, h10⟩ := hU
  have e12 : ∀ k, B.1 312 k = U.1 312 k := fun k => (congrFun (g.1.1 312 (by decide) (by decide)) k).trans (ovr_ne U _ (by decide) k)
  have eN : ∀ a, a ≠ 313 → a ≠ 318 → a ≠ 315 → B.1 a = U.1 a := fun a z1 z2 z3 => (g.1.1 a z1 z2).trans (funext fun j => ovr_ne U _ z3 j)
  have hs : SO (B.1 313) := by
    refine SO.fs g ?_
    rw [show (cpV U 313 0 315 0 564).1 313 = U.1 313 from funext fun j => ovr_ne U _ (by decide) j]
    exact h9
  have h15 : SO (B.1 315) := by
    rw [g.1.1 315 (by decide) (by decide)]
    refine SO.cg (fun k hk => ?_) h9
    have e : (cpV U 313 0 315 0 564).1 315 k = U.1 313 (0 + (k - 0)) := ovr_some U (if_pos ⟨Nat.zero_le _, by omega⟩)
    rw [e, show 0 + (k - 0) = k by omega]
  have hp : PI B pm := h10.cg (eN 317 (by decide) (by decide) (by decide))
  have hRB : RI B := ⟨l, pm, ol, b, (e12 10).trans h1, h2, (e12 5).trans h3, h4, (e12 26).trans h5, h6, (e12 7).trans h7, fun z => by rw [eN 314 (by decide) (by decide) (by decide)]; exact h8 z, hs, hp⟩
  have e10 : B.1 312 10 = V.1 312 10 := (e12 10).trans (f.2.2 10 (by decide))
  have hz : Fz V B := fun a h => (eN a (by omega) (by omega) (by omega)).trans (f.z a h)
  refine ⟨pm, h4, (e12 5).trans h3, hRB, ?_, e10, (kw_312 (by decide)).trans e10, hz, fun a h => (kw_ne (by omega) (by omega)).trans (hz a h)⟩
  refine ⟨l, keQ pm + 1, ol, b, (kw_312 (by decide)).trans ((e12 10).trans h1), h2, up_eq _ _ _ _, keQ_le h4, (kw_312 (by decide)).trans ((e12 26).trans h5), h6, (kw_312 (by decide)).trans ((e12 7).trans h7), fun z => ?_, ?_, ke_pi hp h4 (by decide) (by decide) h15⟩
  · rw [kw_ne (by decide) (by decide), eN 314 (by decide) (by decide) (by decide)]
    exact h8 z
  · rw [kw_ne (by decide) (by decide)]
    exact hs
end M52
