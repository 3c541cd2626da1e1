section M62
/-! ===== the reference: the question is written ===== -/
theorem TR.dn {F : Nat → Int32} {b : Nat} : ∀ {g lo k : Nat}, TR F b g lo k → TR F b (k + 1 - lo) lo k
  | 0, _, _, h => h.elim
  | g + 1, lo, k, h => by
    have hl := h.le
    rw [show k + 1 - lo = (k - lo) + 1 by omega]
    rcases h with h | ⟨kn, h1, h2, h3, h4, h5⟩ | ⟨kn, md, h1, h2, h3, h4, h5, h6, h7, h8⟩
    · exact Or.inl h
    · exact Or.inr (Or.inl ⟨kn, h1, h2, h3, h4, h5.dn.up (by omega)⟩)
    · exact Or.inr (Or.inr ⟨kn, md, h1, h2, h3, h4, h5, h6, h7.dn.up (by omega), h8.dn.up (by omega)⟩)
theorem r_writeQuestion {S : ww_S} {sh : List mm_C} {V : hV} (hM : MS sh) (hI : RI V) : EVQ S 128 309 [.ref 312] (hH sh V) (rP sh V (V.1 312 10)) := by
  obtain ⟨l, pm, ol, bq, g1, g2, g3, g4, g5, g6, g7, g8, g9, g10⟩ := hI
  have hI : RI V := ⟨l, pm, ol, bq, g1, g2, g3, g4, g5, g6, g7, g8, g9, g10⟩
  have fin : ∀ (U W : hV) (o : Nat), FrQ V U → FRW o U W → o ≤ 2000 → ∀ y : Int32, rP sh V (V.1 312 10) (.inl (some (.int y))) (hH sh W) := fun U W o f g h y => ⟨y, W, rfl, rfl, ri_w g h (RI.q f hI), (g.2.2 10 (by decide)).trans (f.2.2 10 (by decide)), fun a h => (g.2.1 a (by omega) (by omega)).trans (f.z a h)⟩
  obtain ⟨nf, n, rw, lg, m, cc, hnf, h5f, hn, hn1, h5, hrw, h32, hlg, hlg2, hfi, hc1, hc2, hTF, hnm, hre, hrf⟩ := g9
  obtain ⟨hm, hm1, hm60, hK, gg, hTR⟩ := hTF
  obtain ⟨U, hU⟩ : ∃ U, up V 312 6 0 = U := ⟨_, rfl⟩
  have fU : FrQ V U := by rw [← hU]; exact fq_6
  have f0 : FRW 0 U (up U 312 26 0) := ⟨up_eq _ _ _ _, fun a h1 _ => funext fun j => up_ne _ _ (Or.inl h1), fun k hk => up_ne _ _ (Or.inr hk)⟩
  have e3 : ∀ k, k < 564 → k ≠ 2 → U.1 313 k = V.1 313 k := fun k _ _ => by
    rw [← hU]
    exact up_ne _ _ (Or.inl (by decide))
  have hmU : (up U 312 26 0).1 313 320 = Int32.ofNat m := (up_ne _ _ (Or.inl (by decide))).trans ((e3 320 (by decide) (by decide)).trans hm)
  have e313 : U.1 313 = V.1 313 := by
    rw [← hU]
    exact funext fun k => up_ne _ _ (Or.inl (by decide))
  have hTR := hTR.dn.up (show m - 1 + 1 - 0 ≤ 60 by omega)
  rw [← e313] at hTR
  obtain ⟨o2, W, E, q2, f2⟩ := e_wnode (S := S) (sh := sh) (V := U) hM (by rw [e313]; exact hnm) h5 h5f hm60 (by rw [e313]; exact hK) 60 0 (m - 1) hTR (by omega) _ 0 f0 (by omega)
  refine ev_of P309 rfl ?_
  refine wp_aload_n k309_0 rfl rfl ?_
  refine wp_iconst 0 k309_1 (by decide) ?_
  refine wp_putI k309_2 (by decide) hM.o rfl rfl rfl ?_
  rw [hU]
  skip
  refine wp_aload_n k309_5 rfl rfl ?_
  refine wp_iconst 0 k309_6 (by decide) ?_
  refine wp_putI k309_7 (by decide) hM.o rfl rfl rfl ?_
  refine wp_aload_n k309_10 rfl rfl ?_
  refine wp_aload_n k309_11 rfl rfl ?_
  refine wp_getR k309_12 (by decide) hM.o rfl ?_
  refine wp_sipush 320 k309_15 (by decide) ?_
  refine wp_iaload k309_18 (by decide) (hM.a313) (by decide) 320 (by decide) (Int32.ofNat m) hmU ?_
  refine wp_iconst 1 k309_19 (by decide) ?_
  refine wp_isub k309_20 ?_
  refine wp_cast (i_pred (by omega)) ?_
  refine wp_cvn (st2 := []) k309_21 E (by decide) rfl rfl rfl rfl (by decide) hM.o (by decide) ?_
  refine wp_aload_n k309_24 rfl rfl ?_
  refine wp_getI k309_25 (by decide) hM.o rfl _ rfl ?_
  exact wp_retI k309_28 rfl (fin U _ _ fU (f0.t f2) (by omega) _)
end M62
