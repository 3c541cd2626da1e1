section M55
/-! ===== the reference: runOrders and ask keep it in order ===== -/
theorem RI.fs {V W : hV} (f : FrS V W) (h : RI V) : RI W := by
  obtain ⟨l, pm, ol, b, h1, h2, h3, h4, h5, h6, h7, h8, h9, h10⟩ := h
  have e := f.1.1 312 (by decide) (by decide)
  refine ⟨l, pm, ol, b, (congrFun e 10).trans h1, h2, (congrFun e 5).trans h3, h4, (congrFun e 26).trans h5, h6, (congrFun e 7).trans h7, fun z => ?_, SO.fs f h9, h10.cg (f.1.1 317 (by decide) (by decide))⟩
  rw [f.1.1 314 (by decide) (by decide)]
  exact h8 z
theorem rtE_ne {V : hV} {T : hP} {a : Nat} (h : a ≠ 312) : (rtE V T).1 a = V.1 a := by
  unfold rtE
  rw [pp_ne _ _ h]
  exact (funext fun j => up_ne _ _ (Or.inl h)).trans ((funext fun j => up_ne _ _ (Or.inl h)).trans ((funext fun j => up_ne _ _ (Or.inl h)).trans (funext fun j => up_ne _ _ (Or.inl h))))
theorem rtE_5 {V : hV} {T : hP} : (rtE V T).1 312 5 = V.1 312 5 := rfl
theorem rtE_7 {V : hV} {T : hP} : (rtE V T).1 312 7 = V.1 312 7 := rfl
theorem rtE_26 {V : hV} {T : hP} : (rtE V T).1 312 26 = V.1 312 26 := rfl
theorem rtE_10 {V : hV} {T : hP} : (rtE V T).1 312 10 = 0 := rfl
/-- behind the end of a text: the input is empty, the rest is as it was -/
theorem ri_end {V U : hV} {T : hP} (h : RI V) (e : ∀ a, a = 313 ∨ a = 314 ∨ a = 317 → U.1 a = V.1 a) (e2 : ∀ k, k = 5 ∨ k = 7 ∨ k = 26 → U.1 312 k = V.1 312 k) : RI (rtE U T) := by
  obtain ⟨l, pm, ol, b, h1, h2, h3, h4, h5, h6, h7, h8, h9, h10⟩ := h
  refine ⟨0, pm, ol, b, rtE_10, Nat.zero_le _, rtE_5.trans ((e2 5 (by omega)).trans h3), h4, rtE_26.trans ((e2 26 (by omega)).trans h5), h6, rtE_7.trans ((e2 7 (by omega)).trans h7), fun z => ?_, ?_, h10.cg ((rtE_ne (by decide)).trans (e 317 (by omega)))⟩
  · rw [rtE_ne (by decide), e 314 (by omega)]
    exact h8 z
  · rw [rtE_ne (by decide), e 313 (by omega)]
    exact h9
theorem ri_ke {V : hV} {pm : Nat} (h : RI V) (hp : V.1 312 5 = Int32.ofNat pm) (hp8 : pm ≤ 8) : RI (keV V pm) := by
  obtain ⟨l, pm2, ol, b, h1, h2, h3, h4, h5, h6, h7, h8, h9, h10⟩ := h
  have e : pm2 = pm := i_inj (by omega) (by omega) (h3.symm.trans hp)
  subst e
  refine ⟨l, keQ pm2 + 1, ol, b, (kw_312 (by decide)).trans h1, h2, up_eq _ _ _ _, keQ_le h4, (kw_312 (by decide)).trans h5, h6, (kw_312 (by decide)).trans h7, fun z => ?_, ?_, ke_pi h10 h4 (by decide) (by decide) h9⟩
  · show SO ((keW 313 V pm2).1 314)
    rw [kw_ne (by decide) (by decide)]
    exact h8 z
  · show SO ((keW 313 V pm2).1 313)
    rw [kw_ne (by decide) (by decide)]
    exact h9
theorem r_runOrders {S : ww_S} {sh : List mm_C} {V : hV} (hM : MS sh) (hI : RI V) : EVQ S 192 254 [.ref 312] (hH sh V) (rP sh V 0) := by
  have hI0 := hI
  obtain ⟨l, pm, ol, bq, g1, g2, g3, g4, g5, g6, g7, g8, g9, g10⟩ := hI
  obtain ⟨nf, n, rw, lg, m, cc, hnf, h5f, hn, hn1, h5, hrw, h32, hlg, hlg2, hfi, hc1, hc2, hTF, hnm, hre, hrf⟩ := g9
  have hT : TX V (V.1 319) l := ⟨g1, g2, rfl⟩
  have E := e_runOrders (S := S) hM hT hn h5 hnf h5f hrw h32 g3 g4
  obtain ⟨q1, q2, q3, _⟩ := l_orders (S := S) (sh := sh) hM h5 h5f 22 0 (up V 312 24 0) (akT V) (fo_24.tx hT) hn hnf ⟨Nat.zero_le _, fun _ => Nat.zero_le _⟩ (fun _ => ⟨up_eq _ _ _ _, by decide, fun i hi => absurd hi (Nat.not_lt_zero i)⟩) (by split <;> omega)
  have hX : ∃ X, orL (V.1 319) l n nf 22 0 (up V 312 24 0) (akT V) = X := ⟨_, rfl⟩
  unfold rnF at E
  obtain ⟨X, hX⟩ := hX
  rw [hX] at E q2 q3
  have f := (fo_24 (V := V) (x := 0)).t q2
  have hRW : RI (rtE X.2.1 X.2.2) := ri_end hI0 (fun a ha => f.1 a (by omega) (by omega) (by omega)) (fun k hk => f.2 k (by omega))
  have hz : Fz V (rtE X.2.1 X.2.2) := fun a h => (rtE_ne (by omega)).trans (f.1 a (by omega) (by omega) (by omega))
  have hW5 : (rtE X.2.1 X.2.2).1 312 5 = Int32.ofNat pm := rtE_5.trans ((f.2 5 (by decide)).trans g3)
  have h313 : (rtE X.2.1 X.2.2).1 313 = V.1 313 := (rtE_ne (by decide)).trans (f.1 313 (by decide) (by decide) (by decide))
  by_cases h0 : er X.2.2 = 0
  · rw [if_pos h0] at E
    obtain ⟨i1, i2, i3⟩ := q3 h0
    have hk313 : (keV (rtE X.2.1 X.2.2) pm).1 313 = V.1 313 := (ke_ne (by decide) (by decide)).trans h313
    have hS := fs_ru2 (n := n) (nf := nf) (rw := rw) (c := X.1) h5 h32 X.1 0 (keV (rtE X.2.1 X.2.2) pm) rfl (fun i hi => ord_cg (V := X.2.1) ((ke_ne (by decide) (by decide)).trans (rtE_ne (by decide))) ((ke_ne (by decide) (by decide)).trans (rtE_ne (by decide))) (i3 i hi)) (by rw [hk313]; exact hrw) (by rw [hk313]; exact hre)
    refine ⟨_, _, E, _, _, rfl, rfl, RI.fs hS (ri_ke hRW hW5 g4), ?_, fun a h => (hS.1.1 a (by omega) (by omega)).trans ((ke_ne (by omega) (by omega)).trans (hz a h))⟩
    exact (congrFun (hS.1.1 312 (by decide) (by decide)) 10).trans ((ke_312 (by decide)).trans rtE_10)
  · rw [if_neg h0] at E
    exact ⟨_, _, E, _, _, rfl, rfl, hRW, rtE_10, hz⟩
theorem r_ask {S : ww_S} {sh : List mm_C} {V : hV} (hM : MS sh) (hI : RI V) : EVQ S 190 255 [.ref 312] (hH sh V) (rP sh V 0) := by
  have hI0 := hI
  obtain ⟨l, pm, ol, bq, g1, g2, g3, g4, g5, g6, g7, g8, g9, g10⟩ := hI
  obtain ⟨nf, n, rw, lg, m, cc, hnf, h5f, hn, hn1, h5, hrw, h32, hlg, hlg2, hfi, hc1, hc2, hTF, hnm, hre, hrf⟩ := g9
  have hT : TX V (V.1 319) l := ⟨g1, g2, rfl⟩
  have E := e_ask (S := S) hM hT hn h5 hnf h5f g3 g4
  have hTr := fun h => rf_tree (S := S) (V := V) (T := akT V) hM hT ⟨Nat.zero_le _, fun _ => Nat.zero_le _⟩ rfl hn h5 hnf h5f (j := 20) (by decide) (b := false) (F := V.1 320) h
  unfold akF at E
  obtain ⟨q, hq⟩ : ∃ q, akQ (V.1 319) l n nf V = q := ⟨_, rfl⟩
  rw [show rfQ (V.1 313) (V.1 319) l (241 * 20) false n nf (V.1 320) (akT V) = q from hq] at hTr
  rw [hq] at E
  obtain ⟨T, hTT⟩ : ∃ T, enF (V.1 319) l q.2.2.2 = T := ⟨_, rfl⟩
  have hU : akE (V.1 319) l V q = rtE (fmV (fxV V (241 * 20) false) q.1 q.2.1 q.2.2.1) T := by rw [← hTT]; rfl
  have hf := fo_fm (V := V) (bs := 241 * 20) (b := false) (F := q.1) (s := q.2.1) (o := q.2.2.1)
  rw [hTT, hU] at E
  have hRW : RI (rtE (fmV (fxV V (241 * 20) false) q.1 q.2.1 q.2.2.1) T) := ri_end hI0 (fun a ha => hf.1 a (by omega) (by omega) (by omega)) (fun k hk => hf.2 k (by omega))
  have hW5 : (rtE (fmV (fxV V (241 * 20) false) q.1 q.2.1 q.2.2.1) T).1 312 5 = Int32.ofNat pm := rtE_5.trans ((hf.2 5 (by decide)).trans g3)
  have h320 : (rtE (fmV (fxV V (241 * 20) false) q.1 q.2.1 q.2.2.1) T).1 320 = q.1 := rtE_ne (by decide)
  have h313 : (rtE (fmV (fxV V (241 * 20) false) q.1 q.2.1 q.2.2.1) T).1 313 = V.1 313 := (rtE_ne (by decide)).trans (hf.1 313 (by decide) (by decide) (by decide))
  have hz : Fz V (rtE (fmV (fxV V (241 * 20) false) q.1 q.2.1 q.2.2.1) T) := fun a h => (rtE_ne (by omega)).trans (hf.1 a (by omega) (by omega) (by omega))
  obtain ⟨W, hW⟩ : ∃ W, rtE (fmV (fxV V (241 * 20) false) q.1 q.2.1 q.2.2.1) T = W := ⟨_, rfl⟩
  rw [hW] at E hRW hW5 h320 h313 hz
  have hW10 : W.1 312 10 = 0 := by rw [← hW]; exact rtE_10
  by_cases h0 : er T = 0
  · rw [if_pos h0] at E
    have hq0 : er q.2.2.2 = 0 := by
      rw [← hTT] at h0
      refine Decidable.byContradiction fun z => ?_
      unfold enF at h0
      rw [if_neg z] at h0
      exact z h0
    obtain ⟨_, ⟨m2, hm2⟩, _⟩ := hTr hq0
    have hK := ri_ke hRW hW5 g4
    obtain ⟨k1, k2, k3, k4, a1, a2, a3, a4, a5, a6, a7, a8, a9, a10⟩ := hK
    have e313 : ∀ k, k < 320 ∨ 561 ≤ k → (akS (keV W pm) 241).1 313 k = (keV W pm).1 313 k := fun k hk => ovr_none _ (if_neg (by omega))
    have eN : ∀ a, a ≠ 313 → (akS (keV W pm) 241).1 a = (keV W pm).1 a := fun a h => funext fun j => ovr_ne _ _ h j
    have hR : RI (akS (keV W pm) 241) := by
      refine ⟨k1, k2, k3, k4, (congrFun (eN 312 (by decide)) 10).trans a1, a2, (congrFun (eN 312 (by decide)) 5).trans a3, a4, (congrFun (eN 312 (by decide)) 26).trans a5, a6, (congrFun (eN 312 (by decide)) 7).trans a7, fun z => ?_, ?_, a10.cg (eN 317 (by decide))⟩
      · rw [eN 314 (by decide)]
        exact a8 z
      · have hk : (keV W pm).1 313 = V.1 313 := (ke_ne (by decide) (by decide)).trans h313
        refine ⟨nf, n, rw, lg, m2, cc, ?_, h5f, ?_, hn1, h5, ?_, h32, ?_, hlg2, ?_, hc1, hc2, hm2.cg fun k hk2 => ?_, fun i hi => ?_, ?_, fun p w hp hw hh => ?_⟩
        · rw [e313 0 (by omega), hk]; exact hnf
        · rw [e313 1 (by omega), hk]; exact hn
        · rw [e313 4 (by omega), hk]; exact hrw
        · rw [e313 6 (by omega), hk]; exact hlg
        · rw [e313 3 (by omega), hk]; exact hfi
        · have e : (akS (keV W pm) 241).1 313 (320 + k) = (keV W pm).1 320 (4820 + (320 + k - 320)) := ovr_some _ (if_pos ⟨by omega, by omega⟩)
          rw [e, ke_ne (by decide) (by decide), h320, show 4820 + (320 + k - 320) = 241 * 20 + k by omega]
        · rw [e313 _ (by omega), e313 _ (by omega), hk]
          exact hnm i hi
        · rw [e313 2 (by omega), e313 4 (by omega), hk]
          exact hre
        · rw [e313 2 (by omega), hk] at hh
          rw [e313 _ (by omega), hk]
          exact hrf p w hp hw hh
    exact ⟨_, _, E, _, _, rfl, rfl, hR, (congrFun (eN 312 (by decide)) 10).trans ((ke_312 (by decide)).trans hW10), fun a h => (eN a (by omega)).trans ((ke_ne (by omega) (by omega)).trans (hz a h))⟩
  · rw [if_neg h0] at E
    exact ⟨_, _, E, _, _, rfl, rfl, hRW, hW10, hz⟩
end M55
