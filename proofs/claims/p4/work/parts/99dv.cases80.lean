section M80
/-! ===== the law: its cases ===== -/
/-- the law goes on from any state that a case may leave -/
def NXT (S : ww_S) (Q : mm_V → mm_H → Prop) (r j : Nat) : Prop := ∀ (s : List mm_C) (W : hV) (l : Nat) (B : hB), LT (r + 7) s W (Int32.ofNat l) (Int32.ofNat l) B → BLf B l → l ≤ 600 → ∀ y5 y6 y7 y8 : Option Value, WP S 200 mz_M 1438 [some (.ref 0), some (.ref 64), some (.ref 312), some (.ref 323), some (.int (Int32.ofNat j)), y5, y6, y7, y8] [] (hH s W) Q
theorem lo3 {S : ww_S} {sh : List mm_C} {V : hV} {Q : mm_V → mm_H → Prop} {r l j : Nat} {xs : Nat → Int32} {B : hB} (hb : BLf B l) (h : LT r sh V (Int32.ofNat l) (Int32.ofNat l) B) (h6 : l ≤ 600) (hS : S.1 ≤ 3072) (hj : j + 6 ≤ S.1) (hx : ∀ q, S.2 q = some (xs q)) (x5 x6 x7 x8 : Option Value) (w : NXT S Q r j) : WP S 200 mz_M 396 [some (.ref 0), some (.ref 64), some (.ref 312), some (.ref 323), some (.int (Int32.ofNat j)), x5, x6, x7, x8] [] (hH sh V) Q := by
  refine wp_aload_n KL396 rfl rfl ?_
  refine wp_aload_n KL397 rfl rfl ?_
  obtain ⟨v, g, e, k, s, W, e1, e2, h2⟩ := wr317 (S := S) h
  subst e1 e2
  refine wp_cs (st2 := []) KL398 e (by decide) rfl rfl rfl (by decide) ?_
  refine wp_istore (L1 := [_, _, _, _, _, _, _, _, _]) KL401 rfl rfl ?_
  refine wp_aload_n KL403 rfl rfl ?_
  obtain ⟨v8, g8, e8, y, U, e1, e2, hR, hL, hZ⟩ := g254 (S := S) h2.2.2.2.1 h2.2.2.2.2.1
  subst e1 e2
  refine wp_cv (st2 := []) KL404 e8 (by decide) rfl rfl rfl rfl (by decide) h2.2.2.2.1.o (by decide) ?_
  have h3 := h2.ref hR hL hZ.y (hZ 319 (Or.inr rfl))
  refine wp_istore (L1 := [_, _, _, _, _, _, _, _, _]) KL407 rfl rfl ?_
  refine wp_goto KL409 ?_
  exact w _ _ 0 _ (h3.mono (by omega)) (fun k hk => absurd hk (Nat.not_lt_zero k)) (by decide) _ _ _ _
theorem lo4 {S : ww_S} {sh : List mm_C} {V : hV} {Q : mm_V → mm_H → Prop} {r l j : Nat} {xs : Nat → Int32} {B : hB} (hb : BLf B l) (h : LT r sh V (Int32.ofNat l) (Int32.ofNat l) B) (h6 : l ≤ 600) (hS : S.1 ≤ 3072) (hj : j + 6 ≤ S.1) (hx : ∀ q, S.2 q = some (xs q)) (x5 x6 x7 x8 : Option Value) (w : NXT S Q r j) : WP S 200 mz_M 412 [some (.ref 0), some (.ref 64), some (.ref 312), some (.ref 323), some (.int (Int32.ofNat j)), x5, x6, x7, x8] [] (hH sh V) Q := by
  refine wp_aload_n KL412 rfl rfl ?_
  refine wp_aload_n KL413 rfl rfl ?_
  obtain ⟨v, g, e, k, s, W, e1, e2, h2⟩ := wr318 (S := S) h
  subst e1 e2
  refine wp_cs (st2 := []) KL414 e (by decide) rfl rfl rfl (by decide) ?_
  refine wp_istore (L1 := [_, _, _, _, _, _, _, _, _]) KL417 rfl rfl ?_
  refine wp_aload_n KL419 rfl rfl ?_
  obtain ⟨v8, g8, e8, y, U, e1, e2, hR, hL, hZ⟩ := g255 (S := S) h2.2.2.2.1 h2.2.2.2.2.1
  subst e1 e2
  refine wp_cv (st2 := []) KL420 e8 (by decide) rfl rfl rfl rfl (by decide) h2.2.2.2.1.o (by decide) ?_
  have h3 := h2.ref hR hL hZ.y (hZ 319 (Or.inr rfl))
  refine wp_istore (L1 := [_, _, _, _, _, _, _, _, _]) KL423 rfl rfl ?_
  refine wp_goto KL425 ?_
  exact w _ _ 0 _ (h3.mono (by omega)) (fun k hk => absurd hk (Nat.not_lt_zero k)) (by decide) _ _ _ _
theorem lo5 {S : ww_S} {sh : List mm_C} {V : hV} {Q : mm_V → mm_H → Prop} {r l j : Nat} {xs : Nat → Int32} {B : hB} (hb : BLf B l) (h : LT r sh V (Int32.ofNat l) (Int32.ofNat l) B) (h6 : l ≤ 600) (hS : S.1 ≤ 3072) (hj : j + 6 ≤ S.1) (hx : ∀ q, S.2 q = some (xs q)) (x5 x6 x7 x8 : Option Value) (w : NXT S Q r j) : WP S 200 mz_M 428 [some (.ref 0), some (.ref 64), some (.ref 312), some (.ref 323), some (.int (Int32.ofNat j)), x5, x6, x7, x8] [] (hH sh V) Q := by
  refine wp_aload_n KL428 rfl rfl ?_
  refine wxI (st2 := []) KL429 (cl103 h) (by decide) rfl rfl rfl rfl (by decide) h.s (by decide) (fun x s W f => ?_)
  have h2 := h.fx0 f
  refine wp_pop KL432 rfl ?_
  refine wp_aload_n KL433 rfl rfl ?_
  obtain ⟨v8, g8, e8, y, U, e1, e2, hR, hL, hZ⟩ := g216 (S := S) h2.2.2.2.1 h2.2.2.2.2.1
  subst e1 e2
  refine wp_cv (st2 := []) KL434 e8 (by decide) rfl rfl rfl rfl (by decide) h2.2.2.2.1.o (by decide) ?_
  have h3 := h2.ref hR (hL.trans h2.2.2.2.2.2.2.1) hZ.y (hZ 319 (Or.inr rfl))
  refine wp_pop KL437 rfl ?_
  refine wp_goto KL438 ?_
  exact w _ _ l _ (h3.mono (by omega)) hb h6 _ _ _ _
theorem lo6 {S : ww_S} {sh : List mm_C} {V : hV} {Q : mm_V → mm_H → Prop} {r l j : Nat} {xs : Nat → Int32} {B : hB} (hb : BLf B l) (h : LT r sh V (Int32.ofNat l) (Int32.ofNat l) B) (h6 : l ≤ 600) (hS : S.1 ≤ 3072) (hj : j + 6 ≤ S.1) (hx : ∀ q, S.2 q = some (xs q)) (x5 x6 x7 x8 : Option Value) (w : NXT S Q r j) : WP S 200 mz_M 441 [some (.ref 0), some (.ref 64), some (.ref 312), some (.ref 323), some (.int (Int32.ofNat j)), x5, x6, x7, x8] [] (hH sh V) Q := by
  refine wp_aload_n KL441 rfl rfl ?_
  refine wxI (st2 := []) KL442 (cl104 h) (by decide) rfl rfl rfl rfl (by decide) h.s (by decide) (fun x s W f => ?_)
  have h2 := h.fx0 f
  refine wp_pop KL445 rfl ?_
  refine wp_aload_n KL446 rfl rfl ?_
  obtain ⟨v8, g8, e8, y, U, e1, e2, hR, hL, hZ⟩ := g217 (S := S) h2.2.2.2.1 h2.2.2.2.2.1
  subst e1 e2
  refine wp_cv (st2 := []) KL447 e8 (by decide) rfl rfl rfl rfl (by decide) h2.2.2.2.1.o (by decide) ?_
  have h3 := h2.ref hR (hL.trans h2.2.2.2.2.2.2.1) hZ.y (hZ 319 (Or.inr rfl))
  refine wp_pop KL450 rfl ?_
  refine wp_goto KL451 ?_
  exact w _ _ l _ (h3.mono (by omega)) hb h6 _ _ _ _
theorem lo7 {S : ww_S} {sh : List mm_C} {V : hV} {Q : mm_V → mm_H → Prop} {r l j : Nat} {xs : Nat → Int32} {B : hB} (hb : BLf B l) (h : LT r sh V (Int32.ofNat l) (Int32.ofNat l) B) (h6 : l ≤ 600) (hS : S.1 ≤ 3072) (hj : j + 6 ≤ S.1) (hx : ∀ q, S.2 q = some (xs q)) (x5 x6 x7 x8 : Option Value) (w : NXT S Q r j) : WP S 200 mz_M 454 [some (.ref 0), some (.ref 64), some (.ref 312), some (.ref 323), some (.int (Int32.ofNat j)), x5, x6, x7, x8] [] (hH sh V) Q := by
  refine wp_aload_n KL454 rfl rfl ?_
  refine wp_arg (k := 1) (x := xs (j + 1)) KL455 KL456 KL458 KL459 KL460 rfl rfl (by decide) (by omega) hS (hx _) ?_
  refine wp_aload_n KL461 rfl rfl ?_
  obtain ⟨v, g, e, k, s, W, e1, e2, h2⟩ := wr319 (S := S) h (p1 := xs (j + 1))
  subst e1 e2
  refine wp_cs (st2 := []) KL462 e (by decide) rfl rfl rfl (by decide) ?_
  refine wp_istore (L1 := [_, _, _, _, _, _, _, _, _]) KL465 rfl rfl ?_
  refine wp_aload_n KL467 rfl rfl ?_
  refine wp_arg (k := 1) (x := xs (j + 1)) KL468 KL469 KL471 KL472 KL473 rfl rfl (by decide) (by omega) hS (hx _) ?_
  obtain ⟨v8, g8, e8, y, U, e1, e2, hR, hL, hZ⟩ := g256 (S := S) h2.2.2.2.1 h2.2.2.2.2.1 (y := xs (j + 1))
  subst e1 e2
  refine wp_cv (st2 := []) KL474 e8 (by decide) rfl rfl rfl rfl (by decide) h2.2.2.2.1.o (by decide) ?_
  have h3 := h2.ref hR (hL.trans h2.2.2.2.2.2.2.1) hZ.y (hZ 319 (Or.inr rfl))
  refine wp_istore (L1 := [_, _, _, _, _, _, _, _, _]) KL477 rfl rfl ?_
  refine wp_goto KL479 ?_
  exact w _ _ l _ (h3.mono (by omega)) hb h6 _ _ _ _
theorem lo9 {S : ww_S} {sh : List mm_C} {V : hV} {Q : mm_V → mm_H → Prop} {r l j : Nat} {xs : Nat → Int32} {B : hB} (hb : BLf B l) (h : LT r sh V (Int32.ofNat l) (Int32.ofNat l) B) (h6 : l ≤ 600) (hS : S.1 ≤ 3072) (hj : j + 6 ≤ S.1) (hx : ∀ q, S.2 q = some (xs q)) (x5 x6 x7 x8 : Option Value) (w : NXT S Q r j) : WP S 200 mz_M 550 [some (.ref 0), some (.ref 64), some (.ref 312), some (.ref 323), some (.int (Int32.ofNat j)), x5, x6, x7, x8] [] (hH sh V) Q := by
  refine wp_aload_n KL550 rfl rfl ?_
  refine wp_arg (k := 1) (x := xs (j + 1)) KL551 KL552 KL554 KL555 KL556 rfl rfl (by decide) (by omega) hS (hx _) ?_
  refine wp_aload_n KL557 rfl rfl ?_
  obtain ⟨v, g, e, k, s, W, e1, e2, h2⟩ := wr321 (S := S) h (p1 := xs (j + 1))
  subst e1 e2
  refine wp_cs (st2 := []) KL558 e (by decide) rfl rfl rfl (by decide) ?_
  refine wp_istore (L1 := [_, _, _, _, _, _, _, _, _]) KL561 rfl rfl ?_
  refine wp_aload_n KL563 rfl rfl ?_
  refine wp_arg (k := 1) (x := xs (j + 1)) KL564 KL565 KL567 KL568 KL569 rfl rfl (by decide) (by omega) hS (hx _) ?_
  obtain ⟨v8, g8, e8, y, U, e1, e2, hR, hL, hZ⟩ := g258 (S := S) h2.2.2.2.1 h2.2.2.2.2.1 (x := xs (j + 1))
  subst e1 e2
  refine wp_cv (st2 := []) KL570 e8 (by decide) rfl rfl rfl rfl (by decide) h2.2.2.2.1.o (by decide) ?_
  have h3 := h2.ref hR (hL.trans h2.2.2.2.2.2.2.1) hZ.y (hZ 319 (Or.inr rfl))
  refine wp_istore (L1 := [_, _, _, _, _, _, _, _, _]) KL573 rfl rfl ?_
  refine wp_goto KL575 ?_
  exact w _ _ l _ (h3.mono (by omega)) hb h6 _ _ _ _
theorem lo10 {S : ww_S} {sh : List mm_C} {V : hV} {Q : mm_V → mm_H → Prop} {r l j : Nat} {xs : Nat → Int32} {B : hB} (hb : BLf B l) (h : LT r sh V (Int32.ofNat l) (Int32.ofNat l) B) (h6 : l ≤ 600) (hS : S.1 ≤ 3072) (hj : j + 6 ≤ S.1) (hx : ∀ q, S.2 q = some (xs q)) (x5 x6 x7 x8 : Option Value) (w : NXT S Q r j) : WP S 200 mz_M 578 [some (.ref 0), some (.ref 64), some (.ref 312), some (.ref 323), some (.int (Int32.ofNat j)), x5, x6, x7, x8] [] (hH sh V) Q := by
  refine wp_aload_n KL578 rfl rfl ?_
  refine wxI (st2 := []) KL579 (cl108 h) (by decide) rfl rfl rfl rfl (by decide) h.s (by decide) (fun x s W f => ?_)
  have h2 := h.fx0 f
  refine wp_pop KL582 rfl ?_
  refine wp_aload_n KL583 rfl rfl ?_
  obtain ⟨v8, g8, e8, y, U, e1, e2, hR, hL, hZ⟩ := g259 (S := S) h2.2.2.2.1 h2.2.2.2.2.1
  subst e1 e2
  refine wp_cv (st2 := []) KL584 e8 (by decide) rfl rfl rfl rfl (by decide) h2.2.2.2.1.o (by decide) ?_
  have h3 := h2.ref hR (hL.trans h2.2.2.2.2.2.2.1) hZ.y (hZ 319 (Or.inr rfl))
  refine wp_pop KL587 rfl ?_
  refine wp_goto KL588 ?_
  exact w _ _ l _ (h3.mono (by omega)) hb h6 _ _ _ _
theorem lo11 {S : ww_S} {sh : List mm_C} {V : hV} {Q : mm_V → mm_H → Prop} {r l j : Nat} {xs : Nat → Int32} {B : hB} (hb : BLf B l) (h : LT r sh V (Int32.ofNat l) (Int32.ofNat l) B) (h6 : l ≤ 600) (hS : S.1 ≤ 3072) (hj : j + 6 ≤ S.1) (hx : ∀ q, S.2 q = some (xs q)) (x5 x6 x7 x8 : Option Value) (w : NXT S Q r j) : WP S 200 mz_M 591 [some (.ref 0), some (.ref 64), some (.ref 312), some (.ref 323), some (.int (Int32.ofNat j)), x5, x6, x7, x8] [] (hH sh V) Q := by
  refine wp_aload_n KL591 rfl rfl ?_
  refine wp_arg (k := 1) (x := xs (j + 1)) KL592 KL593 KL595 KL596 KL597 rfl rfl (by decide) (by omega) hS (hx _) ?_
  refine wp_arg (k := 2) (x := xs (j + 2)) KL598 KL599 KL601 KL602 KL603 rfl rfl (by decide) (by omega) hS (hx _) ?_
  refine wp_aload_n KL604 rfl rfl ?_
  obtain ⟨v, g, e, k, s, W, e1, e2, h2⟩ := wr322 (S := S) h (p1 := xs (j + 1)) (p2 := xs (j + 2))
  subst e1 e2
  refine wp_cs (st2 := []) KL605 e (by decide) rfl rfl rfl (by decide) ?_
  refine wp_istore (L1 := [_, _, _, _, _, _, _, _, _]) KL608 rfl rfl ?_
  refine wp_aload_n KL610 rfl rfl ?_
  refine wp_arg (k := 1) (x := xs (j + 1)) KL611 KL612 KL614 KL615 KL616 rfl rfl (by decide) (by omega) hS (hx _) ?_
  refine wp_arg (k := 2) (x := xs (j + 2)) KL617 KL618 KL620 KL621 KL622 rfl rfl (by decide) (by omega) hS (hx _) ?_
  obtain ⟨v8, g8, e8, y, U, e1, e2, hR, hL, hZ⟩ := g260 (S := S) h2.2.2.2.1 h2.2.2.2.2.1 (x := xs (j + 1)) (y := xs (j + 2))
  subst e1 e2
  refine wp_cv (st2 := []) KL623 e8 (by decide) rfl rfl rfl rfl (by decide) h2.2.2.2.1.o (by decide) ?_
  have h3 := h2.ref hR (hL.trans h2.2.2.2.2.2.2.1) hZ.y (hZ 319 (Or.inr rfl))
  refine wp_istore (L1 := [_, _, _, _, _, _, _, _, _]) KL626 rfl rfl ?_
  refine wp_goto KL628 ?_
  exact w _ _ l _ (h3.mono (by omega)) hb h6 _ _ _ _
theorem lo12 {S : ww_S} {sh : List mm_C} {V : hV} {Q : mm_V → mm_H → Prop} {r l j : Nat} {xs : Nat → Int32} {B : hB} (hb : BLf B l) (h : LT r sh V (Int32.ofNat l) (Int32.ofNat l) B) (h6 : l ≤ 600) (hS : S.1 ≤ 3072) (hj : j + 6 ≤ S.1) (hx : ∀ q, S.2 q = some (xs q)) (x5 x6 x7 x8 : Option Value) (w : NXT S Q r j) : WP S 200 mz_M 631 [some (.ref 0), some (.ref 64), some (.ref 312), some (.ref 323), some (.int (Int32.ofNat j)), x5, x6, x7, x8] [] (hH sh V) Q := by
  refine wp_aload_n KL631 rfl rfl ?_
  refine wp_arg (k := 1) (x := xs (j + 1)) KL632 KL633 KL635 KL636 KL637 rfl rfl (by decide) (by omega) hS (hx _) ?_
  refine wp_aload_n KL638 rfl rfl ?_
  obtain ⟨v, g, e, k, s, W, e1, e2, h2⟩ := wr323 (S := S) h (p1 := xs (j + 1))
  subst e1 e2
  refine wp_cs (st2 := []) KL639 e (by decide) rfl rfl rfl (by decide) ?_
  refine wp_istore (L1 := [_, _, _, _, _, _, _, _, _]) KL642 rfl rfl ?_
  refine wp_aload_n KL644 rfl rfl ?_
  refine wp_arg (k := 1) (x := xs (j + 1)) KL645 KL646 KL648 KL649 KL650 rfl rfl (by decide) (by omega) hS (hx _) ?_
  obtain ⟨v8, g8, e8, y, U, e1, e2, hR, hL, hZ⟩ := g262 (S := S) h2.2.2.2.1 h2.2.2.2.2.1 (x := xs (j + 1))
  subst e1 e2
  refine wp_cv (st2 := []) KL651 e8 (by decide) rfl rfl rfl rfl (by decide) h2.2.2.2.1.o (by decide) ?_
  have h3 := h2.ref hR (hL.trans h2.2.2.2.2.2.2.1) hZ.y (hZ 319 (Or.inr rfl))
  refine wp_istore (L1 := [_, _, _, _, _, _, _, _, _]) KL654 rfl rfl ?_
  refine wp_goto KL656 ?_
  exact w _ _ l _ (h3.mono (by omega)) hb h6 _ _ _ _
theorem lo13 {S : ww_S} {sh : List mm_C} {V : hV} {Q : mm_V → mm_H → Prop} {r l j : Nat} {xs : Nat → Int32} {B : hB} (hb : BLf B l) (h : LT r sh V (Int32.ofNat l) (Int32.ofNat l) B) (h6 : l ≤ 600) (hS : S.1 ≤ 3072) (hj : j + 6 ≤ S.1) (hx : ∀ q, S.2 q = some (xs q)) (x5 x6 x7 x8 : Option Value) (w : NXT S Q r j) : WP S 200 mz_M 659 [some (.ref 0), some (.ref 64), some (.ref 312), some (.ref 323), some (.int (Int32.ofNat j)), x5, x6, x7, x8] [] (hH sh V) Q := by
  refine wp_aload_n KL659 rfl rfl ?_
  refine wp_arg (k := 1) (x := xs (j + 1)) KL660 KL661 KL663 KL664 KL665 rfl rfl (by decide) (by omega) hS (hx _) ?_
  refine wp_aload_n KL666 rfl rfl ?_
  obtain ⟨v, g, e, k, s, W, e1, e2, h2⟩ := wr324 (S := S) h (p1 := xs (j + 1))
  subst e1 e2
  refine wp_cs (st2 := []) KL667 e (by decide) rfl rfl rfl (by decide) ?_
  refine wp_istore (L1 := [_, _, _, _, _, _, _, _, _]) KL670 rfl rfl ?_
  refine wp_aload_n KL672 rfl rfl ?_
  refine wp_arg (k := 1) (x := xs (j + 1)) KL673 KL674 KL676 KL677 KL678 rfl rfl (by decide) (by omega) hS (hx _) ?_
  obtain ⟨v8, g8, e8, y, U, e1, e2, hR, hL, hZ⟩ := g263 (S := S) h2.2.2.2.1 h2.2.2.2.2.1 (x := xs (j + 1))
  subst e1 e2
  refine wp_cv (st2 := []) KL679 e8 (by decide) rfl rfl rfl rfl (by decide) h2.2.2.2.1.o (by decide) ?_
  have h3 := h2.ref hR (hL.trans h2.2.2.2.2.2.2.1) hZ.y (hZ 319 (Or.inr rfl))
  refine wp_istore (L1 := [_, _, _, _, _, _, _, _, _]) KL682 rfl rfl ?_
  refine wp_goto KL684 ?_
  exact w _ _ l _ (h3.mono (by omega)) hb h6 _ _ _ _
theorem lo14 {S : ww_S} {sh : List mm_C} {V : hV} {Q : mm_V → mm_H → Prop} {r l j : Nat} {xs : Nat → Int32} {B : hB} (hb : BLf B l) (h : LT r sh V (Int32.ofNat l) (Int32.ofNat l) B) (h6 : l ≤ 600) (hS : S.1 ≤ 3072) (hj : j + 6 ≤ S.1) (hx : ∀ q, S.2 q = some (xs q)) (x5 x6 x7 x8 : Option Value) (w : NXT S Q r j) : WP S 200 mz_M 687 [some (.ref 0), some (.ref 64), some (.ref 312), some (.ref 323), some (.int (Int32.ofNat j)), x5, x6, x7, x8] [] (hH sh V) Q := by
  refine wp_aload_n KL687 rfl rfl ?_
  refine wp_arg (k := 1) (x := xs (j + 1)) KL688 KL689 KL691 KL692 KL693 rfl rfl (by decide) (by omega) hS (hx _) ?_
  refine wp_aload_n KL694 rfl rfl ?_
  obtain ⟨v, g, e, k, s, W, e1, e2, h2⟩ := wr325 (S := S) h (p1 := xs (j + 1))
  subst e1 e2
  refine wp_cs (st2 := []) KL695 e (by decide) rfl rfl rfl (by decide) ?_
  refine wp_istore (L1 := [_, _, _, _, _, _, _, _, _]) KL698 rfl rfl ?_
  refine wp_aload_n KL700 rfl rfl ?_
  refine wp_arg (k := 1) (x := xs (j + 1)) KL701 KL702 KL704 KL705 KL706 rfl rfl (by decide) (by omega) hS (hx _) ?_
  obtain ⟨v8, g8, e8, y, U, e1, e2, hR, hL, hZ⟩ := g264 (S := S) h2.2.2.2.1 h2.2.2.2.2.1 (x := xs (j + 1))
  subst e1 e2
  refine wp_cv (st2 := []) KL707 e8 (by decide) rfl rfl rfl rfl (by decide) h2.2.2.2.1.o (by decide) ?_
  have h3 := h2.ref hR (hL.trans h2.2.2.2.2.2.2.1) hZ.y (hZ 319 (Or.inr rfl))
  refine wp_istore (L1 := [_, _, _, _, _, _, _, _, _]) KL710 rfl rfl ?_
  refine wp_goto KL712 ?_
  exact w _ _ l _ (h3.mono (by omega)) hb h6 _ _ _ _
theorem lo15 {S : ww_S} {sh : List mm_C} {V : hV} {Q : mm_V → mm_H → Prop} {r l j : Nat} {xs : Nat → Int32} {B : hB} (hb : BLf B l) (h : LT r sh V (Int32.ofNat l) (Int32.ofNat l) B) (h6 : l ≤ 600) (hS : S.1 ≤ 3072) (hj : j + 6 ≤ S.1) (hx : ∀ q, S.2 q = some (xs q)) (x5 x6 x7 x8 : Option Value) (w : NXT S Q r j) : WP S 200 mz_M 715 [some (.ref 0), some (.ref 64), some (.ref 312), some (.ref 323), some (.int (Int32.ofNat j)), x5, x6, x7, x8] [] (hH sh V) Q := by
  refine wp_aload_n KL715 rfl rfl ?_
  refine wp_arg (k := 1) (x := xs (j + 1)) KL716 KL717 KL719 KL720 KL721 rfl rfl (by decide) (by omega) hS (hx _) ?_
  refine wp_arg (k := 2) (x := xs (j + 2)) KL722 KL723 KL725 KL726 KL727 rfl rfl (by decide) (by omega) hS (hx _) ?_
  refine wp_aload_n KL728 rfl rfl ?_
  obtain ⟨v, g, e, k, s, W, e1, e2, h2⟩ := wr326 (S := S) h (p1 := xs (j + 1)) (p2 := xs (j + 2))
  subst e1 e2
  refine wp_cs (st2 := []) KL729 e (by decide) rfl rfl rfl (by decide) ?_
  refine wp_istore (L1 := [_, _, _, _, _, _, _, _, _]) KL732 rfl rfl ?_
  refine wp_aload_n KL734 rfl rfl ?_
  refine wp_arg (k := 1) (x := xs (j + 1)) KL735 KL736 KL738 KL739 KL740 rfl rfl (by decide) (by omega) hS (hx _) ?_
  refine wp_arg (k := 2) (x := xs (j + 2)) KL741 KL742 KL744 KL745 KL746 rfl rfl (by decide) (by omega) hS (hx _) ?_
  obtain ⟨v8, g8, e8, y, U, e1, e2, hR, hL, hZ⟩ := g265 (S := S) h2.2.2.2.1 h2.2.2.2.2.1 (x := xs (j + 1)) (y := xs (j + 2))
  subst e1 e2
  refine wp_cv (st2 := []) KL747 e8 (by decide) rfl rfl rfl rfl (by decide) h2.2.2.2.1.o (by decide) ?_
  have h3 := h2.ref hR (hL.trans h2.2.2.2.2.2.2.1) hZ.y (hZ 319 (Or.inr rfl))
  refine wp_istore (L1 := [_, _, _, _, _, _, _, _, _]) KL750 rfl rfl ?_
  refine wp_goto KL752 ?_
  exact w _ _ l _ (h3.mono (by omega)) hb h6 _ _ _ _
theorem lo16 {S : ww_S} {sh : List mm_C} {V : hV} {Q : mm_V → mm_H → Prop} {r l j : Nat} {xs : Nat → Int32} {B : hB} (hb : BLf B l) (h : LT r sh V (Int32.ofNat l) (Int32.ofNat l) B) (h6 : l ≤ 600) (hS : S.1 ≤ 3072) (hj : j + 6 ≤ S.1) (hx : ∀ q, S.2 q = some (xs q)) (x5 x6 x7 x8 : Option Value) (w : NXT S Q r j) : WP S 200 mz_M 755 [some (.ref 0), some (.ref 64), some (.ref 312), some (.ref 323), some (.int (Int32.ofNat j)), x5, x6, x7, x8] [] (hH sh V) Q := by
  refine wp_aload_n KL755 rfl rfl ?_
  refine wp_arg (k := 1) (x := xs (j + 1)) KL756 KL757 KL759 KL760 KL761 rfl rfl (by decide) (by omega) hS (hx _) ?_
  refine wp_aload_n KL762 rfl rfl ?_
  obtain ⟨v, g, e, k, s, W, e1, e2, h2⟩ := wr327 (S := S) h (p1 := xs (j + 1))
  subst e1 e2
  refine wp_cs (st2 := []) KL763 e (by decide) rfl rfl rfl (by decide) ?_
  refine wp_istore (L1 := [_, _, _, _, _, _, _, _, _]) KL766 rfl rfl ?_
  refine wp_aload_n KL768 rfl rfl ?_
  refine wp_arg (k := 1) (x := xs (j + 1)) KL769 KL770 KL772 KL773 KL774 rfl rfl (by decide) (by omega) hS (hx _) ?_
  obtain ⟨v8, g8, e8, y, U, e1, e2, hR, hL, hZ⟩ := g266 (S := S) h2.2.2.2.1 h2.2.2.2.2.1 (x := xs (j + 1))
  subst e1 e2
  refine wp_cv (st2 := []) KL775 e8 (by decide) rfl rfl rfl rfl (by decide) h2.2.2.2.1.o (by decide) ?_
  have h3 := h2.ref hR (hL.trans h2.2.2.2.2.2.2.1) hZ.y (hZ 319 (Or.inr rfl))
  refine wp_istore (L1 := [_, _, _, _, _, _, _, _, _]) KL778 rfl rfl ?_
  refine wp_goto KL780 ?_
  exact w _ _ l _ (h3.mono (by omega)) hb h6 _ _ _ _
theorem lo17 {S : ww_S} {sh : List mm_C} {V : hV} {Q : mm_V → mm_H → Prop} {r l j : Nat} {xs : Nat → Int32} {B : hB} (hb : BLf B l) (h : LT r sh V (Int32.ofNat l) (Int32.ofNat l) B) (h6 : l ≤ 600) (hS : S.1 ≤ 3072) (hj : j + 6 ≤ S.1) (hx : ∀ q, S.2 q = some (xs q)) (x5 x6 x7 x8 : Option Value) (w : NXT S Q r j) : WP S 200 mz_M 783 [some (.ref 0), some (.ref 64), some (.ref 312), some (.ref 323), some (.int (Int32.ofNat j)), x5, x6, x7, x8] [] (hH sh V) Q := by
  refine wp_aload_n KL783 rfl rfl ?_
  refine wxI (st2 := []) KL784 (cl115 h) (by decide) rfl rfl rfl rfl (by decide) h.s (by decide) (fun x s W f => ?_)
  have h2 := h.fx0 f
  refine wp_pop KL787 rfl ?_
  refine wp_aload_n KL788 rfl rfl ?_
  obtain ⟨v8, g8, e8, y, U, e1, e2, hR, hL, hZ⟩ := g267 (S := S) h2.2.2.2.1 h2.2.2.2.2.1
  subst e1 e2
  refine wp_cv (st2 := []) KL789 e8 (by decide) rfl rfl rfl rfl (by decide) h2.2.2.2.1.o (by decide) ?_
  have h3 := h2.ref hR (hL.trans h2.2.2.2.2.2.2.1) hZ.y (hZ 319 (Or.inr rfl))
  refine wp_pop KL792 rfl ?_
  refine wp_goto KL793 ?_
  exact w _ _ l _ (h3.mono (by omega)) hb h6 _ _ _ _
theorem lo18 {S : ww_S} {sh : List mm_C} {V : hV} {Q : mm_V → mm_H → Prop} {r l j : Nat} {xs : Nat → Int32} {B : hB} (hb : BLf B l) (h : LT r sh V (Int32.ofNat l) (Int32.ofNat l) B) (h6 : l ≤ 600) (hS : S.1 ≤ 3072) (hj : j + 6 ≤ S.1) (hx : ∀ q, S.2 q = some (xs q)) (x5 x6 x7 x8 : Option Value) (w : NXT S Q r j) : WP S 200 mz_M 796 [some (.ref 0), some (.ref 64), some (.ref 312), some (.ref 323), some (.int (Int32.ofNat j)), x5, x6, x7, x8] [] (hH sh V) Q := by
  refine wp_aload_n KL796 rfl rfl ?_
  refine wxI (st2 := []) KL797 (cl116 h) (by decide) rfl rfl rfl rfl (by decide) h.s (by decide) (fun x s W f => ?_)
  have h2 := h.fx0 f
  refine wp_pop KL800 rfl ?_
  refine wp_aload_n KL801 rfl rfl ?_
  obtain ⟨v8, g8, e8, y, U, e1, e2, hR, hL, hZ⟩ := g268 (S := S) h2.2.2.2.1 h2.2.2.2.2.1
  subst e1 e2
  refine wp_cv (st2 := []) KL802 e8 (by decide) rfl rfl rfl rfl (by decide) h2.2.2.2.1.o (by decide) ?_
  have h3 := h2.ref hR (hL.trans h2.2.2.2.2.2.2.1) hZ.y (hZ 319 (Or.inr rfl))
  refine wp_pop KL805 rfl ?_
  refine wp_goto KL806 ?_
  exact w _ _ l _ (h3.mono (by omega)) hb h6 _ _ _ _
theorem lo19 {S : ww_S} {sh : List mm_C} {V : hV} {Q : mm_V → mm_H → Prop} {r l j : Nat} {xs : Nat → Int32} {B : hB} (hb : BLf B l) (h : LT r sh V (Int32.ofNat l) (Int32.ofNat l) B) (h6 : l ≤ 600) (hS : S.1 ≤ 3072) (hj : j + 6 ≤ S.1) (hx : ∀ q, S.2 q = some (xs q)) (x5 x6 x7 x8 : Option Value) (w : NXT S Q r j) : WP S 200 mz_M 809 [some (.ref 0), some (.ref 64), some (.ref 312), some (.ref 323), some (.int (Int32.ofNat j)), x5, x6, x7, x8] [] (hH sh V) Q := by
  refine wp_aload_n KL809 rfl rfl ?_
  refine wxI (st2 := []) KL810 (cl117 h) (by decide) rfl rfl rfl rfl (by decide) h.s (by decide) (fun x s W f => ?_)
  have h2 := h.fx0 f
  refine wp_pop KL813 rfl ?_
  refine wp_aload_n KL814 rfl rfl ?_
  obtain ⟨v8, g8, e8, y, U, e1, e2, hR, hL, hZ⟩ := g269 (S := S) h2.2.2.2.1 h2.2.2.2.2.1
  subst e1 e2
  refine wp_cv (st2 := []) KL815 e8 (by decide) rfl rfl rfl rfl (by decide) h2.2.2.2.1.o (by decide) ?_
  have h3 := h2.ref hR (hL.trans h2.2.2.2.2.2.2.1) hZ.y (hZ 319 (Or.inr rfl))
  refine wp_pop KL818 rfl ?_
  refine wp_goto KL819 ?_
  exact w _ _ l _ (h3.mono (by omega)) hb h6 _ _ _ _
theorem lo20 {S : ww_S} {sh : List mm_C} {V : hV} {Q : mm_V → mm_H → Prop} {r l j : Nat} {xs : Nat → Int32} {B : hB} (hb : BLf B l) (h : LT r sh V (Int32.ofNat l) (Int32.ofNat l) B) (h6 : l ≤ 600) (hS : S.1 ≤ 3072) (hj : j + 6 ≤ S.1) (hx : ∀ q, S.2 q = some (xs q)) (x5 x6 x7 x8 : Option Value) (w : NXT S Q r j) : WP S 200 mz_M 822 [some (.ref 0), some (.ref 64), some (.ref 312), some (.ref 323), some (.int (Int32.ofNat j)), x5, x6, x7, x8] [] (hH sh V) Q := by
  refine wp_aload_n KL822 rfl rfl ?_
  refine wxI (st2 := []) KL823 (cl118 h) (by decide) rfl rfl rfl rfl (by decide) h.s (by decide) (fun x s W f => ?_)
  have h2 := h.fx0 f
  refine wp_pop KL826 rfl ?_
  refine wp_aload_n KL827 rfl rfl ?_
  obtain ⟨v8, g8, e8, y, U, e1, e2, hR, hL, hZ⟩ := g270 (S := S) h2.2.2.2.1 h2.2.2.2.2.1
  subst e1 e2
  refine wp_cv (st2 := []) KL828 e8 (by decide) rfl rfl rfl rfl (by decide) h2.2.2.2.1.o (by decide) ?_
  have h3 := h2.ref hR (hL.trans h2.2.2.2.2.2.2.1) hZ.y (hZ 319 (Or.inr rfl))
  refine wp_pop KL831 rfl ?_
  refine wp_goto KL832 ?_
  exact w _ _ l _ (h3.mono (by omega)) hb h6 _ _ _ _
theorem lo21 {S : ww_S} {sh : List mm_C} {V : hV} {Q : mm_V → mm_H → Prop} {r l j : Nat} {xs : Nat → Int32} {B : hB} (hb : BLf B l) (h : LT r sh V (Int32.ofNat l) (Int32.ofNat l) B) (h6 : l ≤ 600) (hS : S.1 ≤ 3072) (hj : j + 6 ≤ S.1) (hx : ∀ q, S.2 q = some (xs q)) (x5 x6 x7 x8 : Option Value) (w : NXT S Q r j) : WP S 200 mz_M 835 [some (.ref 0), some (.ref 64), some (.ref 312), some (.ref 323), some (.int (Int32.ofNat j)), x5, x6, x7, x8] [] (hH sh V) Q := by
  refine wp_aload_n KL835 rfl rfl ?_
  refine wxI (st2 := []) KL836 (cl119 h) (by decide) rfl rfl rfl rfl (by decide) h.s (by decide) (fun x s W f => ?_)
  have h2 := h.fx0 f
  refine wp_pop KL839 rfl ?_
  refine wp_aload_n KL840 rfl rfl ?_
  obtain ⟨v8, g8, e8, y, U, e1, e2, hR, hL, hZ⟩ := g271 (S := S) h2.2.2.2.1 h2.2.2.2.2.1
  subst e1 e2
  refine wp_cv (st2 := []) KL841 e8 (by decide) rfl rfl rfl rfl (by decide) h2.2.2.2.1.o (by decide) ?_
  have h3 := h2.ref hR (hL.trans h2.2.2.2.2.2.2.1) hZ.y (hZ 319 (Or.inr rfl))
  refine wp_pop KL844 rfl ?_
  refine wp_goto KL845 ?_
  exact w _ _ l _ (h3.mono (by omega)) hb h6 _ _ _ _
theorem lo22 {S : ww_S} {sh : List mm_C} {V : hV} {Q : mm_V → mm_H → Prop} {r l j : Nat} {xs : Nat → Int32} {B : hB} (hb : BLf B l) (h : LT r sh V (Int32.ofNat l) (Int32.ofNat l) B) (h6 : l ≤ 600) (hS : S.1 ≤ 3072) (hj : j + 6 ≤ S.1) (hx : ∀ q, S.2 q = some (xs q)) (x5 x6 x7 x8 : Option Value) (w : NXT S Q r j) : WP S 200 mz_M 848 [some (.ref 0), some (.ref 64), some (.ref 312), some (.ref 323), some (.int (Int32.ofNat j)), x5, x6, x7, x8] [] (hH sh V) Q := by
  refine wp_aload_n KL848 rfl rfl ?_
  refine wxI (st2 := []) KL849 (cl120 h) (by decide) rfl rfl rfl rfl (by decide) h.s (by decide) (fun x s W f => ?_)
  have h2 := h.fx0 f
  refine wp_pop KL852 rfl ?_
  refine wp_aload_n KL853 rfl rfl ?_
  obtain ⟨v8, g8, e8, y, U, e1, e2, hR, hL, hZ⟩ := g272 (S := S) h2.2.2.2.1 h2.2.2.2.2.1
  subst e1 e2
  refine wp_cv (st2 := []) KL854 e8 (by decide) rfl rfl rfl rfl (by decide) h2.2.2.2.1.o (by decide) ?_
  have h3 := h2.ref hR (hL.trans h2.2.2.2.2.2.2.1) hZ.y (hZ 319 (Or.inr rfl))
  refine wp_pop KL857 rfl ?_
  refine wp_goto KL858 ?_
  exact w _ _ l _ (h3.mono (by omega)) hb h6 _ _ _ _
theorem lo23 {S : ww_S} {sh : List mm_C} {V : hV} {Q : mm_V → mm_H → Prop} {r l j : Nat} {xs : Nat → Int32} {B : hB} (hb : BLf B l) (h : LT r sh V (Int32.ofNat l) (Int32.ofNat l) B) (h6 : l ≤ 600) (hS : S.1 ≤ 3072) (hj : j + 6 ≤ S.1) (hx : ∀ q, S.2 q = some (xs q)) (x5 x6 x7 x8 : Option Value) (w : NXT S Q r j) : WP S 200 mz_M 861 [some (.ref 0), some (.ref 64), some (.ref 312), some (.ref 323), some (.int (Int32.ofNat j)), x5, x6, x7, x8] [] (hH sh V) Q := by
  refine wp_aload_n KL861 rfl rfl ?_
  refine wp_arg (k := 1) (x := xs (j + 1)) KL862 KL863 KL865 KL866 KL867 rfl rfl (by decide) (by omega) hS (hx _) ?_
  refine wp_arg (k := 2) (x := xs (j + 2)) KL868 KL869 KL871 KL872 KL873 rfl rfl (by decide) (by omega) hS (hx _) ?_
  refine wp_aload_n KL874 rfl rfl ?_
  obtain ⟨v, g, e, k, s, W, e1, e2, h2⟩ := wr328 (S := S) h (p1 := xs (j + 1)) (p2 := xs (j + 2))
  subst e1 e2
  refine wp_cs (st2 := []) KL875 e (by decide) rfl rfl rfl (by decide) ?_
  refine wp_istore (L1 := [_, _, _, _, _, _, _, _, _]) KL878 rfl rfl ?_
  refine wp_aload_n KL880 rfl rfl ?_
  refine wp_arg (k := 1) (x := xs (j + 1)) KL881 KL882 KL884 KL885 KL886 rfl rfl (by decide) (by omega) hS (hx _) ?_
  refine wp_arg (k := 2) (x := xs (j + 2)) KL887 KL888 KL890 KL891 KL892 rfl rfl (by decide) (by omega) hS (hx _) ?_
  obtain ⟨v8, g8, e8, y, U, e1, e2, hR, hL, hZ⟩ := g273 (S := S) h2.2.2.2.1 h2.2.2.2.2.1 (x := xs (j + 1)) (y := xs (j + 2))
  subst e1 e2
  refine wp_cv (st2 := []) KL893 e8 (by decide) rfl rfl rfl rfl (by decide) h2.2.2.2.1.o (by decide) ?_
  have h3 := h2.ref hR (hL.trans h2.2.2.2.2.2.2.1) hZ.y (hZ 319 (Or.inr rfl))
  refine wp_istore (L1 := [_, _, _, _, _, _, _, _, _]) KL896 rfl rfl ?_
  refine wp_goto KL898 ?_
  exact w _ _ l _ (h3.mono (by omega)) hb h6 _ _ _ _
theorem lo24 {S : ww_S} {sh : List mm_C} {V : hV} {Q : mm_V → mm_H → Prop} {r l j : Nat} {xs : Nat → Int32} {B : hB} (hb : BLf B l) (h : LT r sh V (Int32.ofNat l) (Int32.ofNat l) B) (h6 : l ≤ 600) (hS : S.1 ≤ 3072) (hj : j + 6 ≤ S.1) (hx : ∀ q, S.2 q = some (xs q)) (x5 x6 x7 x8 : Option Value) (w : NXT S Q r j) : WP S 200 mz_M 901 [some (.ref 0), some (.ref 64), some (.ref 312), some (.ref 323), some (.int (Int32.ofNat j)), x5, x6, x7, x8] [] (hH sh V) Q := by
  refine wp_aload_n KL901 rfl rfl ?_
  refine wxI (st2 := []) KL902 (cl122 h) (by decide) rfl rfl rfl rfl (by decide) h.s (by decide) (fun x s W f => ?_)
  have h2 := h.fx0 f
  refine wp_pop KL905 rfl ?_
  refine wp_aload_n KL906 rfl rfl ?_
  obtain ⟨v8, g8, e8, y, U, e1, e2, hR, hL, hZ⟩ := g275 (S := S) h2.2.2.2.1 h2.2.2.2.2.1
  subst e1 e2
  refine wp_cv (st2 := []) KL907 e8 (by decide) rfl rfl rfl rfl (by decide) h2.2.2.2.1.o (by decide) ?_
  have h3 := h2.ref hR (hL.trans h2.2.2.2.2.2.2.1) hZ.y (hZ 319 (Or.inr rfl))
  refine wp_pop KL910 rfl ?_
  refine wp_goto KL911 ?_
  exact w _ _ l _ (h3.mono (by omega)) hb h6 _ _ _ _
theorem lo25 {S : ww_S} {sh : List mm_C} {V : hV} {Q : mm_V → mm_H → Prop} {r l j : Nat} {xs : Nat → Int32} {B : hB} (hb : BLf B l) (h : LT r sh V (Int32.ofNat l) (Int32.ofNat l) B) (h6 : l ≤ 600) (hS : S.1 ≤ 3072) (hj : j + 6 ≤ S.1) (hx : ∀ q, S.2 q = some (xs q)) (x5 x6 x7 x8 : Option Value) (w : NXT S Q r j) : WP S 200 mz_M 914 [some (.ref 0), some (.ref 64), some (.ref 312), some (.ref 323), some (.int (Int32.ofNat j)), x5, x6, x7, x8] [] (hH sh V) Q := by
  refine wp_aload_n KL914 rfl rfl ?_
  refine wxI (st2 := []) KL915 (cl123 h) (by decide) rfl rfl rfl rfl (by decide) h.s (by decide) (fun x s W f => ?_)
  have h2 := h.fx0 f
  refine wp_pop KL918 rfl ?_
  refine wp_aload_n KL919 rfl rfl ?_
  obtain ⟨v8, g8, e8, y, U, e1, e2, hR, hL, hZ⟩ := g278 (S := S) h2.2.2.2.1 h2.2.2.2.2.1
  subst e1 e2
  refine wp_cv (st2 := []) KL920 e8 (by decide) rfl rfl rfl rfl (by decide) h2.2.2.2.1.o (by decide) ?_
  have h3 := h2.ref hR (hL.trans h2.2.2.2.2.2.2.1) hZ.y (hZ 319 (Or.inr rfl))
  refine wp_pop KL923 rfl ?_
  refine wp_goto KL924 ?_
  exact w _ _ l _ (h3.mono (by omega)) hb h6 _ _ _ _
theorem lo26 {S : ww_S} {sh : List mm_C} {V : hV} {Q : mm_V → mm_H → Prop} {r l j : Nat} {xs : Nat → Int32} {B : hB} (hb : BLf B l) (h : LT r sh V (Int32.ofNat l) (Int32.ofNat l) B) (h6 : l ≤ 600) (hS : S.1 ≤ 3072) (hj : j + 6 ≤ S.1) (hx : ∀ q, S.2 q = some (xs q)) (x5 x6 x7 x8 : Option Value) (w : NXT S Q r j) : WP S 200 mz_M 927 [some (.ref 0), some (.ref 64), some (.ref 312), some (.ref 323), some (.int (Int32.ofNat j)), x5, x6, x7, x8] [] (hH sh V) Q := by
  refine wp_aload_n KL927 rfl rfl ?_
  refine wp_arg (k := 1) (x := xs (j + 1)) KL928 KL929 KL931 KL932 KL933 rfl rfl (by decide) (by omega) hS (hx _) ?_
  refine wp_aload_n KL934 rfl rfl ?_
  obtain ⟨v, g, e, k, s, W, e1, e2, h2⟩ := wr329 (S := S) h (p1 := xs (j + 1))
  subst e1 e2
  refine wp_cs (st2 := []) KL935 e (by decide) rfl rfl rfl (by decide) ?_
  refine wp_istore (L1 := [_, _, _, _, _, _, _, _, _]) KL938 rfl rfl ?_
  refine wp_aload_n KL940 rfl rfl ?_
  refine wp_arg (k := 1) (x := xs (j + 1)) KL941 KL942 KL944 KL945 KL946 rfl rfl (by decide) (by omega) hS (hx _) ?_
  obtain ⟨v8, g8, e8, y, U, e1, e2, hR, hL, hZ⟩ := g279 (S := S) h2.2.2.2.1 h2.2.2.2.2.1 (x := xs (j + 1))
  subst e1 e2
  refine wp_cv (st2 := []) KL947 e8 (by decide) rfl rfl rfl rfl (by decide) h2.2.2.2.1.o (by decide) ?_
  have h3 := h2.ref hR (hL.trans h2.2.2.2.2.2.2.1) hZ.y (hZ 319 (Or.inr rfl))
  refine wp_istore (L1 := [_, _, _, _, _, _, _, _, _]) KL950 rfl rfl ?_
  refine wp_goto KL952 ?_
  exact w _ _ l _ (h3.mono (by omega)) hb h6 _ _ _ _
theorem lo27 {S : ww_S} {sh : List mm_C} {V : hV} {Q : mm_V → mm_H → Prop} {r l j : Nat} {xs : Nat → Int32} {B : hB} (hb : BLf B l) (h : LT r sh V (Int32.ofNat l) (Int32.ofNat l) B) (h6 : l ≤ 600) (hS : S.1 ≤ 3072) (hj : j + 6 ≤ S.1) (hx : ∀ q, S.2 q = some (xs q)) (x5 x6 x7 x8 : Option Value) (w : NXT S Q r j) : WP S 200 mz_M 955 [some (.ref 0), some (.ref 64), some (.ref 312), some (.ref 323), some (.int (Int32.ofNat j)), x5, x6, x7, x8] [] (hH sh V) Q := by
  refine wp_aload_n KL955 rfl rfl ?_
  refine wp_arg (k := 1) (x := xs (j + 1)) KL956 KL957 KL959 KL960 KL961 rfl rfl (by decide) (by omega) hS (hx _) ?_
  refine wp_aload_n KL962 rfl rfl ?_
  obtain ⟨v, g, e, k, s, W, e1, e2, h2⟩ := wr330 (S := S) h (p1 := xs (j + 1))
  subst e1 e2
  refine wp_cs (st2 := []) KL963 e (by decide) rfl rfl rfl (by decide) ?_
  refine wp_istore (L1 := [_, _, _, _, _, _, _, _, _]) KL966 rfl rfl ?_
  refine wp_aload_n KL968 rfl rfl ?_
  refine wp_arg (k := 1) (x := xs (j + 1)) KL969 KL970 KL972 KL973 KL974 rfl rfl (by decide) (by omega) hS (hx _) ?_
  obtain ⟨v8, g8, e8, y, U, e1, e2, hR, hL, hZ⟩ := g281 (S := S) h2.2.2.2.1 h2.2.2.2.2.1 (x := xs (j + 1))
  subst e1 e2
  refine wp_cv (st2 := []) KL975 e8 (by decide) rfl rfl rfl rfl (by decide) h2.2.2.2.1.o (by decide) ?_
  have h3 := h2.ref hR (hL.trans h2.2.2.2.2.2.2.1) hZ.y (hZ 319 (Or.inr rfl))
  refine wp_istore (L1 := [_, _, _, _, _, _, _, _, _]) KL978 rfl rfl ?_
  refine wp_goto KL980 ?_
  exact w _ _ l _ (h3.mono (by omega)) hb h6 _ _ _ _
theorem lo28 {S : ww_S} {sh : List mm_C} {V : hV} {Q : mm_V → mm_H → Prop} {r l j : Nat} {xs : Nat → Int32} {B : hB} (hb : BLf B l) (h : LT r sh V (Int32.ofNat l) (Int32.ofNat l) B) (h6 : l ≤ 600) (hS : S.1 ≤ 3072) (hj : j + 6 ≤ S.1) (hx : ∀ q, S.2 q = some (xs q)) (x5 x6 x7 x8 : Option Value) (w : NXT S Q r j) : WP S 200 mz_M 983 [some (.ref 0), some (.ref 64), some (.ref 312), some (.ref 323), some (.int (Int32.ofNat j)), x5, x6, x7, x8] [] (hH sh V) Q := by
  refine wp_aload_n KL983 rfl rfl ?_
  refine wp_arg (k := 1) (x := xs (j + 1)) KL984 KL985 KL987 KL988 KL989 rfl rfl (by decide) (by omega) hS (hx _) ?_
  refine wp_aload_n KL990 rfl rfl ?_
  obtain ⟨v, g, e, k, s, W, e1, e2, h2⟩ := wr331 (S := S) h (p1 := xs (j + 1))
  subst e1 e2
  refine wp_cs (st2 := []) KL991 e (by decide) rfl rfl rfl (by decide) ?_
  refine wp_istore (L1 := [_, _, _, _, _, _, _, _, _]) KL994 rfl rfl ?_
  refine wp_aload_n KL996 rfl rfl ?_
  refine wp_arg (k := 1) (x := xs (j + 1)) KL997 KL998 KL1000 KL1001 KL1002 rfl rfl (by decide) (by omega) hS (hx _) ?_
  obtain ⟨v8, g8, e8, y, U, e1, e2, hR, hL, hZ⟩ := g283 (S := S) h2.2.2.2.1 h2.2.2.2.2.1 (x := xs (j + 1))
  subst e1 e2
  refine wp_cv (st2 := []) KL1003 e8 (by decide) rfl rfl rfl rfl (by decide) h2.2.2.2.1.o (by decide) ?_
  have h3 := h2.ref hR (hL.trans h2.2.2.2.2.2.2.1) hZ.y (hZ 319 (Or.inr rfl))
  refine wp_istore (L1 := [_, _, _, _, _, _, _, _, _]) KL1006 rfl rfl ?_
  refine wp_goto KL1008 ?_
  exact w _ _ l _ (h3.mono (by omega)) hb h6 _ _ _ _
theorem lo29 {S : ww_S} {sh : List mm_C} {V : hV} {Q : mm_V → mm_H → Prop} {r l j : Nat} {xs : Nat → Int32} {B : hB} (hb : BLf B l) (h : LT r sh V (Int32.ofNat l) (Int32.ofNat l) B) (h6 : l ≤ 600) (hS : S.1 ≤ 3072) (hj : j + 6 ≤ S.1) (hx : ∀ q, S.2 q = some (xs q)) (x5 x6 x7 x8 : Option Value) (w : NXT S Q r j) : WP S 200 mz_M 1011 [some (.ref 0), some (.ref 64), some (.ref 312), some (.ref 323), some (.int (Int32.ofNat j)), x5, x6, x7, x8] [] (hH sh V) Q := by
  refine wp_aload_n KL1011 rfl rfl ?_
  refine wxI (st2 := []) KL1012 (cl127 h) (by decide) rfl rfl rfl rfl (by decide) h.s (by decide) (fun x s W f => ?_)
  have h2 := h.fx0 f
  refine wp_pop KL1015 rfl ?_
  refine wp_aload_n KL1016 rfl rfl ?_
  obtain ⟨v8, g8, e8, y, U, e1, e2, hR, hL, hZ⟩ := g284 (S := S) h2.2.2.2.1 h2.2.2.2.2.1
  subst e1 e2
  refine wp_cv (st2 := []) KL1017 e8 (by decide) rfl rfl rfl rfl (by decide) h2.2.2.2.1.o (by decide) ?_
  have h3 := h2.ref hR (hL.trans h2.2.2.2.2.2.2.1) hZ.y (hZ 319 (Or.inr rfl))
  refine wp_pop KL1020 rfl ?_
  refine wp_goto KL1021 ?_
  exact w _ _ l _ (h3.mono (by omega)) hb h6 _ _ _ _
theorem lo30 {S : ww_S} {sh : List mm_C} {V : hV} {Q : mm_V → mm_H → Prop} {r l j : Nat} {xs : Nat → Int32} {B : hB} (hb : BLf B l) (h : LT r sh V (Int32.ofNat l) (Int32.ofNat l) B) (h6 : l ≤ 600) (hS : S.1 ≤ 3072) (hj : j + 6 ≤ S.1) (hx : ∀ q, S.2 q = some (xs q)) (x5 x6 x7 x8 : Option Value) (w : NXT S Q r j) : WP S 200 mz_M 1024 [some (.ref 0), some (.ref 64), some (.ref 312), some (.ref 323), some (.int (Int32.ofNat j)), x5, x6, x7, x8] [] (hH sh V) Q := by
  refine wp_aload_n KL1024 rfl rfl ?_
  refine wp_arg (k := 1) (x := xs (j + 1)) KL1025 KL1026 KL1028 KL1029 KL1030 rfl rfl (by decide) (by omega) hS (hx _) ?_
  refine wp_aload_n KL1031 rfl rfl ?_
  obtain ⟨v, g, e, k, s, W, e1, e2, h2⟩ := wr332 (S := S) h (p1 := xs (j + 1))
  subst e1 e2
  refine wp_cs (st2 := []) KL1032 e (by decide) rfl rfl rfl (by decide) ?_
  refine wp_istore (L1 := [_, _, _, _, _, _, _, _, _]) KL1035 rfl rfl ?_
  refine wp_aload_n KL1037 rfl rfl ?_
  refine wp_arg (k := 1) (x := xs (j + 1)) KL1038 KL1039 KL1041 KL1042 KL1043 rfl rfl (by decide) (by omega) hS (hx _) ?_
  obtain ⟨v8, g8, e8, y, U, e1, e2, hR, hL, hZ⟩ := g286 (S := S) h2.2.2.2.1 h2.2.2.2.2.1 (x := xs (j + 1))
  subst e1 e2
  refine wp_cv (st2 := []) KL1044 e8 (by decide) rfl rfl rfl rfl (by decide) h2.2.2.2.1.o (by decide) ?_
  have h3 := h2.ref hR (hL.trans h2.2.2.2.2.2.2.1) hZ.y (hZ 319 (Or.inr rfl))
  refine wp_istore (L1 := [_, _, _, _, _, _, _, _, _]) KL1047 rfl rfl ?_
  refine wp_goto KL1049 ?_
  exact w _ _ l _ (h3.mono (by omega)) hb h6 _ _ _ _
theorem lo31 {S : ww_S} {sh : List mm_C} {V : hV} {Q : mm_V → mm_H → Prop} {r l j : Nat} {xs : Nat → Int32} {B : hB} (hb : BLf B l) (h : LT r sh V (Int32.ofNat l) (Int32.ofNat l) B) (h6 : l ≤ 600) (hS : S.1 ≤ 3072) (hj : j + 6 ≤ S.1) (hx : ∀ q, S.2 q = some (xs q)) (x5 x6 x7 x8 : Option Value) (w : NXT S Q r j) : WP S 200 mz_M 1052 [some (.ref 0), some (.ref 64), some (.ref 312), some (.ref 323), some (.int (Int32.ofNat j)), x5, x6, x7, x8] [] (hH sh V) Q := by
  refine wp_aload_n KL1052 rfl rfl ?_
  refine wp_arg (k := 1) (x := xs (j + 1)) KL1053 KL1054 KL1056 KL1057 KL1058 rfl rfl (by decide) (by omega) hS (hx _) ?_
  refine wp_arg (k := 2) (x := xs (j + 2)) KL1059 KL1060 KL1062 KL1063 KL1064 rfl rfl (by decide) (by omega) hS (hx _) ?_
  refine wp_aload_n KL1065 rfl rfl ?_
  obtain ⟨v, g, e, k, s, W, e1, e2, h2⟩ := wr333 (S := S) h (p1 := xs (j + 1)) (p2 := xs (j + 2))
  subst e1 e2
  refine wp_cs (st2 := []) KL1066 e (by decide) rfl rfl rfl (by decide) ?_
  refine wp_istore (L1 := [_, _, _, _, _, _, _, _, _]) KL1069 rfl rfl ?_
  refine wp_aload_n KL1071 rfl rfl ?_
  refine wp_arg (k := 1) (x := xs (j + 1)) KL1072 KL1073 KL1075 KL1076 KL1077 rfl rfl (by decide) (by omega) hS (hx _) ?_
  refine wp_arg (k := 2) (x := xs (j + 2)) KL1078 KL1079 KL1081 KL1082 KL1083 rfl rfl (by decide) (by omega) hS (hx _) ?_
  obtain ⟨v8, g8, e8, y, U, e1, e2, hR, hL, hZ⟩ := g287 (S := S) h2.2.2.2.1 h2.2.2.2.2.1 (x := xs (j + 1)) (y := xs (j + 2))
  subst e1 e2
  refine wp_cv (st2 := []) KL1084 e8 (by decide) rfl rfl rfl rfl (by decide) h2.2.2.2.1.o (by decide) ?_
  have h3 := h2.ref hR (hL.trans h2.2.2.2.2.2.2.1) hZ.y (hZ 319 (Or.inr rfl))
  refine wp_istore (L1 := [_, _, _, _, _, _, _, _, _]) KL1087 rfl rfl ?_
  refine wp_goto KL1089 ?_
  exact w _ _ l _ (h3.mono (by omega)) hb h6 _ _ _ _
theorem lo32 {S : ww_S} {sh : List mm_C} {V : hV} {Q : mm_V → mm_H → Prop} {r l j : Nat} {xs : Nat → Int32} {B : hB} (hb : BLf B l) (h : LT r sh V (Int32.ofNat l) (Int32.ofNat l) B) (h6 : l ≤ 600) (hS : S.1 ≤ 3072) (hj : j + 6 ≤ S.1) (hx : ∀ q, S.2 q = some (xs q)) (x5 x6 x7 x8 : Option Value) (w : NXT S Q r j) : WP S 200 mz_M 1092 [some (.ref 0), some (.ref 64), some (.ref 312), some (.ref 323), some (.int (Int32.ofNat j)), x5, x6, x7, x8] [] (hH sh V) Q := by
  refine wp_aload_n KL1092 rfl rfl ?_
  refine wp_arg (k := 1) (x := xs (j + 1)) KL1093 KL1094 KL1096 KL1097 KL1098 rfl rfl (by decide) (by omega) hS (hx _) ?_
  refine wp_aload_n KL1099 rfl rfl ?_
  obtain ⟨v, g, e, k, s, W, e1, e2, h2⟩ := wr334 (S := S) h (p1 := xs (j + 1))
  subst e1 e2
  refine wp_cs (st2 := []) KL1100 e (by decide) rfl rfl rfl (by decide) ?_
  refine wp_istore (L1 := [_, _, _, _, _, _, _, _, _]) KL1103 rfl rfl ?_
  refine wp_aload_n KL1105 rfl rfl ?_
  refine wp_arg (k := 1) (x := xs (j + 1)) KL1106 KL1107 KL1109 KL1110 KL1111 rfl rfl (by decide) (by omega) hS (hx _) ?_
  obtain ⟨v8, g8, e8, y, U, e1, e2, hR, hL, hZ⟩ := g288 (S := S) h2.2.2.2.1 h2.2.2.2.2.1 (y := xs (j + 1))
  subst e1 e2
  refine wp_cv (st2 := []) KL1112 e8 (by decide) rfl rfl rfl rfl (by decide) h2.2.2.2.1.o (by decide) ?_
  have h3 := h2.ref hR (hL.trans h2.2.2.2.2.2.2.1) hZ.y (hZ 319 (Or.inr rfl))
  refine wp_istore (L1 := [_, _, _, _, _, _, _, _, _]) KL1115 rfl rfl ?_
  refine wp_goto KL1117 ?_
  exact w _ _ l _ (h3.mono (by omega)) hb h6 _ _ _ _
theorem lo33 {S : ww_S} {sh : List mm_C} {V : hV} {Q : mm_V → mm_H → Prop} {r l j : Nat} {xs : Nat → Int32} {B : hB} (hb : BLf B l) (h : LT r sh V (Int32.ofNat l) (Int32.ofNat l) B) (h6 : l ≤ 600) (hS : S.1 ≤ 3072) (hj : j + 6 ≤ S.1) (hx : ∀ q, S.2 q = some (xs q)) (x5 x6 x7 x8 : Option Value) (w : NXT S Q r j) : WP S 200 mz_M 1120 [some (.ref 0), some (.ref 64), some (.ref 312), some (.ref 323), some (.int (Int32.ofNat j)), x5, x6, x7, x8] [] (hH sh V) Q := by
  refine wp_aload_n KL1120 rfl rfl ?_
  refine wxI (st2 := []) KL1121 (cl131 h) (by decide) rfl rfl rfl rfl (by decide) h.s (by decide) (fun x s W f => ?_)
  have h2 := h.fx0 f
  refine wp_pop KL1124 rfl ?_
  refine wp_aload_n KL1125 rfl rfl ?_
  obtain ⟨v8, g8, e8, y, U, e1, e2, hR, hL, hZ⟩ := g289 (S := S) h2.2.2.2.1 h2.2.2.2.2.1
  subst e1 e2
  refine wp_cv (st2 := []) KL1126 e8 (by decide) rfl rfl rfl rfl (by decide) h2.2.2.2.1.o (by decide) ?_
  have h3 := h2.ref hR (hL.trans h2.2.2.2.2.2.2.1) hZ.y (hZ 319 (Or.inr rfl))
  refine wp_pop KL1129 rfl ?_
  refine wp_goto KL1130 ?_
  exact w _ _ l _ (h3.mono (by omega)) hb h6 _ _ _ _
theorem lo36 {S : ww_S} {sh : List mm_C} {V : hV} {Q : mm_V → mm_H → Prop} {r l j : Nat} {xs : Nat → Int32} {B : hB} (hb : BLf B l) (h : LT r sh V (Int32.ofNat l) (Int32.ofNat l) B) (h6 : l ≤ 600) (hS : S.1 ≤ 3072) (hj : j + 6 ≤ S.1) (hx : ∀ q, S.2 q = some (xs q)) (x5 x6 x7 x8 : Option Value) (w : NXT S Q r j) : WP S 200 mz_M 1165 [some (.ref 0), some (.ref 64), some (.ref 312), some (.ref 323), some (.int (Int32.ofNat j)), x5, x6, x7, x8] [] (hH sh V) Q := by
  refine wp_aload_n KL1165 rfl rfl ?_
  refine wxI (st2 := []) KL1166 (cl134 h) (by decide) rfl rfl rfl rfl (by decide) h.s (by decide) (fun x s W f => ?_)
  have h2 := h.fx0 f
  refine wp_pop KL1169 rfl ?_
  refine wp_aload_n KL1170 rfl rfl ?_
  obtain ⟨v8, g8, e8, y, U, e1, e2, hR, hL, hZ⟩ := g294 (S := S) h2.2.2.2.1 h2.2.2.2.2.1
  subst e1 e2
  refine wp_cv (st2 := []) KL1171 e8 (by decide) rfl rfl rfl rfl (by decide) h2.2.2.2.1.o (by decide) ?_
  have h3 := h2.ref hR (hL.trans h2.2.2.2.2.2.2.1) hZ.y (hZ 319 (Or.inr rfl))
  refine wp_pop KL1174 rfl ?_
  refine wp_goto KL1175 ?_
  exact w _ _ l _ (h3.mono (by omega)) hb h6 _ _ _ _
theorem lo37 {S : ww_S} {sh : List mm_C} {V : hV} {Q : mm_V → mm_H → Prop} {r l j : Nat} {xs : Nat → Int32} {B : hB} (hb : BLf B l) (h : LT r sh V (Int32.ofNat l) (Int32.ofNat l) B) (h6 : l ≤ 600) (hS : S.1 ≤ 3072) (hj : j + 6 ≤ S.1) (hx : ∀ q, S.2 q = some (xs q)) (x5 x6 x7 x8 : Option Value) (w : NXT S Q r j) : WP S 200 mz_M 1178 [some (.ref 0), some (.ref 64), some (.ref 312), some (.ref 323), some (.int (Int32.ofNat j)), x5, x6, x7, x8] [] (hH sh V) Q := by
  refine wp_aload_n KL1178 rfl rfl ?_
  refine wp_arg (k := 1) (x := xs (j + 1)) KL1179 KL1180 KL1182 KL1183 KL1184 rfl rfl (by decide) (by omega) hS (hx _) ?_
  refine wp_aload_n KL1185 rfl rfl ?_
  obtain ⟨v, g, e, k, s, W, e1, e2, h2⟩ := wr335 (S := S) h (p1 := xs (j + 1))
  subst e1 e2
  refine wp_cs (st2 := []) KL1186 e (by decide) rfl rfl rfl (by decide) ?_
  refine wp_istore (L1 := [_, _, _, _, _, _, _, _, _]) KL1189 rfl rfl ?_
  refine wp_aload_n KL1191 rfl rfl ?_
  refine wp_arg (k := 1) (x := xs (j + 1)) KL1192 KL1193 KL1195 KL1196 KL1197 rfl rfl (by decide) (by omega) hS (hx _) ?_
  obtain ⟨v8, g8, e8, y, U, e1, e2, hR, hL, hZ⟩ := g295 (S := S) h2.2.2.2.1 h2.2.2.2.2.1 (x := xs (j + 1))
  subst e1 e2
  refine wp_cv (st2 := []) KL1198 e8 (by decide) rfl rfl rfl rfl (by decide) h2.2.2.2.1.o (by decide) ?_
  have h3 := h2.ref hR (hL.trans h2.2.2.2.2.2.2.1) hZ.y (hZ 319 (Or.inr rfl))
  refine wp_istore (L1 := [_, _, _, _, _, _, _, _, _]) KL1201 rfl rfl ?_
  refine wp_goto KL1203 ?_
  exact w _ _ l _ (h3.mono (by omega)) hb h6 _ _ _ _
theorem lo38 {S : ww_S} {sh : List mm_C} {V : hV} {Q : mm_V → mm_H → Prop} {r l j : Nat} {xs : Nat → Int32} {B : hB} (hb : BLf B l) (h : LT r sh V (Int32.ofNat l) (Int32.ofNat l) B) (h6 : l ≤ 600) (hS : S.1 ≤ 3072) (hj : j + 6 ≤ S.1) (hx : ∀ q, S.2 q = some (xs q)) (x5 x6 x7 x8 : Option Value) (w : NXT S Q r j) : WP S 200 mz_M 1206 [some (.ref 0), some (.ref 64), some (.ref 312), some (.ref 323), some (.int (Int32.ofNat j)), x5, x6, x7, x8] [] (hH sh V) Q := by
  refine wp_aload_n KL1206 rfl rfl ?_
  refine wp_arg (k := 1) (x := xs (j + 1)) KL1207 KL1208 KL1210 KL1211 KL1212 rfl rfl (by decide) (by omega) hS (hx _) ?_
  refine wp_aload_n KL1213 rfl rfl ?_
  obtain ⟨v, g, e, k, s, W, e1, e2, h2⟩ := wr336 (S := S) h (p1 := xs (j + 1))
  subst e1 e2
  refine wp_cs (st2 := []) KL1214 e (by decide) rfl rfl rfl (by decide) ?_
  refine wp_istore (L1 := [_, _, _, _, _, _, _, _, _]) KL1217 rfl rfl ?_
  refine wp_aload_n KL1219 rfl rfl ?_
  refine wp_arg (k := 1) (x := xs (j + 1)) KL1220 KL1221 KL1223 KL1224 KL1225 rfl rfl (by decide) (by omega) hS (hx _) ?_
  obtain ⟨v8, g8, e8, y, U, e1, e2, hR, hL, hZ⟩ := g296 (S := S) h2.2.2.2.1 h2.2.2.2.2.1 (x := xs (j + 1))
  subst e1 e2
  refine wp_cv (st2 := []) KL1226 e8 (by decide) rfl rfl rfl rfl (by decide) h2.2.2.2.1.o (by decide) ?_
  have h3 := h2.ref hR (hL.trans h2.2.2.2.2.2.2.1) hZ.y (hZ 319 (Or.inr rfl))
  refine wp_istore (L1 := [_, _, _, _, _, _, _, _, _]) KL1229 rfl rfl ?_
  refine wp_goto KL1231 ?_
  exact w _ _ l _ (h3.mono (by omega)) hb h6 _ _ _ _
theorem lo39 {S : ww_S} {sh : List mm_C} {V : hV} {Q : mm_V → mm_H → Prop} {r l j : Nat} {xs : Nat → Int32} {B : hB} (hb : BLf B l) (h : LT r sh V (Int32.ofNat l) (Int32.ofNat l) B) (h6 : l ≤ 600) (hS : S.1 ≤ 3072) (hj : j + 6 ≤ S.1) (hx : ∀ q, S.2 q = some (xs q)) (x5 x6 x7 x8 : Option Value) (w : NXT S Q r j) : WP S 200 mz_M 1234 [some (.ref 0), some (.ref 64), some (.ref 312), some (.ref 323), some (.int (Int32.ofNat j)), x5, x6, x7, x8] [] (hH sh V) Q := by
  refine wp_aload_n KL1234 rfl rfl ?_
  refine wp_arg (k := 1) (x := xs (j + 1)) KL1235 KL1236 KL1238 KL1239 KL1240 rfl rfl (by decide) (by omega) hS (hx _) ?_
  refine wp_arg (k := 2) (x := xs (j + 2)) KL1241 KL1242 KL1244 KL1245 KL1246 rfl rfl (by decide) (by omega) hS (hx _) ?_
  refine wp_aload_n KL1247 rfl rfl ?_
  obtain ⟨v, g, e, k, s, W, e1, e2, h2⟩ := wr337 (S := S) h (p1 := xs (j + 1)) (p2 := xs (j + 2))
  subst e1 e2
  refine wp_cs (st2 := []) KL1248 e (by decide) rfl rfl rfl (by decide) ?_
  refine wp_istore (L1 := [_, _, _, _, _, _, _, _, _]) KL1251 rfl rfl ?_
  refine wp_aload_n KL1253 rfl rfl ?_
  refine wp_arg (k := 1) (x := xs (j + 1)) KL1254 KL1255 KL1257 KL1258 KL1259 rfl rfl (by decide) (by omega) hS (hx _) ?_
  refine wp_arg (k := 2) (x := xs (j + 2)) KL1260 KL1261 KL1263 KL1264 KL1265 rfl rfl (by decide) (by omega) hS (hx _) ?_
  obtain ⟨v8, g8, e8, y, U, e1, e2, hR, hL, hZ⟩ := g297 (S := S) h2.2.2.2.1 h2.2.2.2.2.1 (x := xs (j + 1)) (y := xs (j + 2))
  subst e1 e2
  refine wp_cv (st2 := []) KL1266 e8 (by decide) rfl rfl rfl rfl (by decide) h2.2.2.2.1.o (by decide) ?_
  have h3 := h2.ref hR (hL.trans h2.2.2.2.2.2.2.1) hZ.y (hZ 319 (Or.inr rfl))
  refine wp_istore (L1 := [_, _, _, _, _, _, _, _, _]) KL1269 rfl rfl ?_
  refine wp_goto KL1271 ?_
  exact w _ _ l _ (h3.mono (by omega)) hb h6 _ _ _ _
theorem lo40 {S : ww_S} {sh : List mm_C} {V : hV} {Q : mm_V → mm_H → Prop} {r l j : Nat} {xs : Nat → Int32} {B : hB} (hb : BLf B l) (h : LT r sh V (Int32.ofNat l) (Int32.ofNat l) B) (h6 : l ≤ 600) (hS : S.1 ≤ 3072) (hj : j + 6 ≤ S.1) (hx : ∀ q, S.2 q = some (xs q)) (x5 x6 x7 x8 : Option Value) (w : NXT S Q r j) : WP S 200 mz_M 1274 [some (.ref 0), some (.ref 64), some (.ref 312), some (.ref 323), some (.int (Int32.ofNat j)), x5, x6, x7, x8] [] (hH sh V) Q := by
  refine wp_aload_n KL1274 rfl rfl ?_
  refine wp_arg (k := 1) (x := xs (j + 1)) KL1275 KL1276 KL1278 KL1279 KL1280 rfl rfl (by decide) (by omega) hS (hx _) ?_
  refine wp_aload_n KL1281 rfl rfl ?_
  obtain ⟨v, g, e, k, s, W, e1, e2, h2⟩ := wr338 (S := S) h (p1 := xs (j + 1))
  subst e1 e2
  refine wp_cs (st2 := []) KL1282 e (by decide) rfl rfl rfl (by decide) ?_
  refine wp_istore (L1 := [_, _, _, _, _, _, _, _, _]) KL1285 rfl rfl ?_
  refine wp_aload_n KL1287 rfl rfl ?_
  refine wp_arg (k := 1) (x := xs (j + 1)) KL1288 KL1289 KL1291 KL1292 KL1293 rfl rfl (by decide) (by omega) hS (hx _) ?_
  obtain ⟨v8, g8, e8, y, U, e1, e2, hR, hL, hZ⟩ := g298 (S := S) h2.2.2.2.1 h2.2.2.2.2.1 (y := xs (j + 1))
  subst e1 e2
  refine wp_cv (st2 := []) KL1294 e8 (by decide) rfl rfl rfl rfl (by decide) h2.2.2.2.1.o (by decide) ?_
  have h3 := h2.ref hR (hL.trans h2.2.2.2.2.2.2.1) hZ.y (hZ 319 (Or.inr rfl))
  refine wp_istore (L1 := [_, _, _, _, _, _, _, _, _]) KL1297 rfl rfl ?_
  refine wp_goto KL1299 ?_
  exact w _ _ l _ (h3.mono (by omega)) hb h6 _ _ _ _
theorem lo41 {S : ww_S} {sh : List mm_C} {V : hV} {Q : mm_V → mm_H → Prop} {r l j : Nat} {xs : Nat → Int32} {B : hB} (hb : BLf B l) (h : LT r sh V (Int32.ofNat l) (Int32.ofNat l) B) (h6 : l ≤ 600) (hS : S.1 ≤ 3072) (hj : j + 6 ≤ S.1) (hx : ∀ q, S.2 q = some (xs q)) (x5 x6 x7 x8 : Option Value) (w : NXT S Q r j) : WP S 200 mz_M 1302 [some (.ref 0), some (.ref 64), some (.ref 312), some (.ref 323), some (.int (Int32.ofNat j)), x5, x6, x7, x8] [] (hH sh V) Q := by
  refine wp_aload_n KL1302 rfl rfl ?_
  refine wp_arg (k := 1) (x := xs (j + 1)) KL1303 KL1304 KL1306 KL1307 KL1308 rfl rfl (by decide) (by omega) hS (hx _) ?_
  refine wp_aload_n KL1309 rfl rfl ?_
  obtain ⟨v, g, e, k, s, W, e1, e2, h2⟩ := wr339 (S := S) h (p1 := xs (j + 1))
  subst e1 e2
  refine wp_cs (st2 := []) KL1310 e (by decide) rfl rfl rfl (by decide) ?_
  refine wp_istore (L1 := [_, _, _, _, _, _, _, _, _]) KL1313 rfl rfl ?_
  refine wp_aload_n KL1315 rfl rfl ?_
  refine wp_arg (k := 1) (x := xs (j + 1)) KL1316 KL1317 KL1319 KL1320 KL1321 rfl rfl (by decide) (by omega) hS (hx _) ?_
  obtain ⟨v8, g8, e8, y, U, e1, e2, hR, hL, hZ⟩ := g303 (S := S) h2.2.2.2.1 h2.2.2.2.2.1 (x := xs (j + 1))
  subst e1 e2
  refine wp_cv (st2 := []) KL1322 e8 (by decide) rfl rfl rfl rfl (by decide) h2.2.2.2.1.o (by decide) ?_
  have h3 := h2.ref hR (hL.trans h2.2.2.2.2.2.2.1) hZ.y (hZ 319 (Or.inr rfl))
  refine wp_istore (L1 := [_, _, _, _, _, _, _, _, _]) KL1325 rfl rfl ?_
  refine wp_goto KL1327 ?_
  exact w _ _ l _ (h3.mono (by omega)) hb h6 _ _ _ _
theorem lo42 {S : ww_S} {sh : List mm_C} {V : hV} {Q : mm_V → mm_H → Prop} {r l j : Nat} {xs : Nat → Int32} {B : hB} (hb : BLf B l) (h : LT r sh V (Int32.ofNat l) (Int32.ofNat l) B) (h6 : l ≤ 600) (hS : S.1 ≤ 3072) (hj : j + 6 ≤ S.1) (hx : ∀ q, S.2 q = some (xs q)) (x5 x6 x7 x8 : Option Value) (w : NXT S Q r j) : WP S 200 mz_M 1330 [some (.ref 0), some (.ref 64), some (.ref 312), some (.ref 323), some (.int (Int32.ofNat j)), x5, x6, x7, x8] [] (hH sh V) Q := by
  refine wp_aload_n KL1330 rfl rfl ?_
  refine wp_arg (k := 1) (x := xs (j + 1)) KL1331 KL1332 KL1334 KL1335 KL1336 rfl rfl (by decide) (by omega) hS (hx _) ?_
  refine wp_aload_n KL1337 rfl rfl ?_
  obtain ⟨v, g, e, k, s, W, e1, e2, h2⟩ := wr340 (S := S) h (p1 := xs (j + 1))
  subst e1 e2
  refine wp_cs (st2 := []) KL1338 e (by decide) rfl rfl rfl (by decide) ?_
  refine wp_istore (L1 := [_, _, _, _, _, _, _, _, _]) KL1341 rfl rfl ?_
  refine wp_aload_n KL1343 rfl rfl ?_
  refine wp_arg (k := 1) (x := xs (j + 1)) KL1344 KL1345 KL1347 KL1348 KL1349 rfl rfl (by decide) (by omega) hS (hx _) ?_
  obtain ⟨v8, g8, e8, y, U, e1, e2, hR, hL, hZ⟩ := g305 (S := S) h2.2.2.2.1 h2.2.2.2.2.1 (x := xs (j + 1))
  subst e1 e2
  refine wp_cv (st2 := []) KL1350 e8 (by decide) rfl rfl rfl rfl (by decide) h2.2.2.2.1.o (by decide) ?_
  have h3 := h2.ref hR (hL.trans h2.2.2.2.2.2.2.1) hZ.y (hZ 319 (Or.inr rfl))
  refine wp_istore (L1 := [_, _, _, _, _, _, _, _, _]) KL1353 rfl rfl ?_
  refine wp_goto KL1355 ?_
  exact w _ _ l _ (h3.mono (by omega)) hb h6 _ _ _ _
theorem lo43 {S : ww_S} {sh : List mm_C} {V : hV} {Q : mm_V → mm_H → Prop} {r l j : Nat} {xs : Nat → Int32} {B : hB} (hb : BLf B l) (h : LT r sh V (Int32.ofNat l) (Int32.ofNat l) B) (h6 : l ≤ 600) (hS : S.1 ≤ 3072) (hj : j + 6 ≤ S.1) (hx : ∀ q, S.2 q = some (xs q)) (x5 x6 x7 x8 : Option Value) (w : NXT S Q r j) : WP S 200 mz_M 1358 [some (.ref 0), some (.ref 64), some (.ref 312), some (.ref 323), some (.int (Int32.ofNat j)), x5, x6, x7, x8] [] (hH sh V) Q := by
  refine wp_aload_n KL1358 rfl rfl ?_
  refine wxI (st2 := []) KL1359 (cl141 h) (by decide) rfl rfl rfl rfl (by decide) h.s (by decide) (fun x s W f => ?_)
  have h2 := h.fx0 f
  refine wp_pop KL1362 rfl ?_
  refine wp_aload_n KL1363 rfl rfl ?_
  obtain ⟨v8, g8, e8, y, U, e1, e2, hR, hL, hZ⟩ := g309 (S := S) h2.2.2.2.1 h2.2.2.2.2.1
  subst e1 e2
  refine wp_cv (st2 := []) KL1364 e8 (by decide) rfl rfl rfl rfl (by decide) h2.2.2.2.1.o (by decide) ?_
  have h3 := h2.ref hR (hL.trans h2.2.2.2.2.2.2.1) hZ.y (hZ 319 (Or.inr rfl))
  refine wp_pop KL1367 rfl ?_
  refine wp_goto KL1368 ?_
  exact w _ _ l _ (h3.mono (by omega)) hb h6 _ _ _ _
theorem lo44 {S : ww_S} {sh : List mm_C} {V : hV} {Q : mm_V → mm_H → Prop} {r l j : Nat} {xs : Nat → Int32} {B : hB} (hb : BLf B l) (h : LT r sh V (Int32.ofNat l) (Int32.ofNat l) B) (h6 : l ≤ 600) (hS : S.1 ≤ 3072) (hj : j + 6 ≤ S.1) (hx : ∀ q, S.2 q = some (xs q)) (x5 x6 x7 x8 : Option Value) (w : NXT S Q r j) : WP S 200 mz_M 1371 [some (.ref 0), some (.ref 64), some (.ref 312), some (.ref 323), some (.int (Int32.ofNat j)), x5, x6, x7, x8] [] (hH sh V) Q := by
  refine wp_aload_n KL1371 rfl rfl ?_
  refine wp_arg (k := 1) (x := xs (j + 1)) KL1372 KL1373 KL1375 KL1376 KL1377 rfl rfl (by decide) (by omega) hS (hx _) ?_
  refine wxI (st2 := []) KL1378 (cl142 h (p1 := xs (j + 1))) (by decide) rfl rfl rfl rfl (by decide) h.s (by decide) (fun x s W f => ?_)
  have h2 := h.fx0 f
  refine wp_pop KL1381 rfl ?_
  refine wp_aload_n KL1382 rfl rfl ?_
  refine wp_arg (k := 1) (x := xs (j + 1)) KL1383 KL1384 KL1386 KL1387 KL1388 rfl rfl (by decide) (by omega) hS (hx _) ?_
  obtain ⟨v8, g8, e8, y, U, e1, e2, hR, hL, hZ⟩ := g310 (S := S) h2.2.2.2.1 h2.2.2.2.2.1 (x := xs (j + 1))
  subst e1 e2
  refine wp_cv (st2 := []) KL1389 e8 (by decide) rfl rfl rfl rfl (by decide) h2.2.2.2.1.o (by decide) ?_
  have h3 := h2.ref hR (hL.trans h2.2.2.2.2.2.2.1) hZ.y (hZ 319 (Or.inr rfl))
  refine wp_pop KL1392 rfl ?_
  refine wp_goto KL1393 ?_
  exact w _ _ l _ (h3.mono (by omega)) hb h6 _ _ _ _
theorem lo45 {S : ww_S} {sh : List mm_C} {V : hV} {Q : mm_V → mm_H → Prop} {r l j : Nat} {xs : Nat → Int32} {B : hB} (hb : BLf B l) (h : LT r sh V (Int32.ofNat l) (Int32.ofNat l) B) (h6 : l ≤ 600) (hS : S.1 ≤ 3072) (hj : j + 6 ≤ S.1) (hx : ∀ q, S.2 q = some (xs q)) (x5 x6 x7 x8 : Option Value) (w : NXT S Q r j) : WP S 200 mz_M 1396 [some (.ref 0), some (.ref 64), some (.ref 312), some (.ref 323), some (.int (Int32.ofNat j)), x5, x6, x7, x8] [] (hH sh V) Q := by
  refine wp_aload_n KL1396 rfl rfl ?_
  refine wxI (st2 := []) KL1397 (cl143 h) (by decide) rfl rfl rfl rfl (by decide) h.s (by decide) (fun x s W f => ?_)
  have h2 := h.fx0 f
  refine wp_pop KL1400 rfl ?_
  refine wp_aload_n KL1401 rfl rfl ?_
  obtain ⟨v8, g8, e8, y, U, e1, e2, hR, hL, hZ⟩ := g311 (S := S) h2.2.2.2.1 h2.2.2.2.2.1
  subst e1 e2
  refine wp_cv (st2 := []) KL1402 e8 (by decide) rfl rfl rfl rfl (by decide) h2.2.2.2.1.o (by decide) ?_
  have h3 := h2.ref hR (hL.trans h2.2.2.2.2.2.2.1) hZ.y (hZ 319 (Or.inr rfl))
  refine wp_pop KL1405 rfl ?_
  refine wp_goto KL1406 ?_
  exact w _ _ l _ (h3.mono (by omega)) hb h6 _ _ _ _
theorem lo46 {S : ww_S} {sh : List mm_C} {V : hV} {Q : mm_V → mm_H → Prop} {r l j : Nat} {xs : Nat → Int32} {B : hB} (hb : BLf B l) (h : LT r sh V (Int32.ofNat l) (Int32.ofNat l) B) (h6 : l ≤ 600) (hS : S.1 ≤ 3072) (hj : j + 6 ≤ S.1) (hx : ∀ q, S.2 q = some (xs q)) (x5 x6 x7 x8 : Option Value) (w : NXT S Q r j) : WP S 200 mz_M 1409 [some (.ref 0), some (.ref 64), some (.ref 312), some (.ref 323), some (.int (Int32.ofNat j)), x5, x6, x7, x8] [] (hH sh V) Q := by
  refine wp_aload_n KL1409 rfl rfl ?_
  refine wxI (st2 := []) KL1410 (cl144 h) (by decide) rfl rfl rfl rfl (by decide) h.s (by decide) (fun x s W f => ?_)
  have h2 := h.fx0 f
  refine wp_pop KL1413 rfl ?_
  refine wp_aload_n KL1414 rfl rfl ?_
  obtain ⟨v8, g8, e8, y, U, e1, e2, hR, hL, hZ⟩ := g312 (S := S) h2.2.2.2.1 h2.2.2.2.2.1
  subst e1 e2
  refine wp_cv (st2 := []) KL1415 e8 (by decide) rfl rfl rfl rfl (by decide) h2.2.2.2.1.o (by decide) ?_
  have h3 := h2.ref hR (hL.trans h2.2.2.2.2.2.2.1) hZ.y (hZ 319 (Or.inr rfl))
  refine wp_pop KL1418 rfl ?_
  refine wp_goto KL1419 ?_
  exact w _ _ l _ (h3.mono (by omega)) hb h6 _ _ _ _
theorem lo47 {S : ww_S} {sh : List mm_C} {V : hV} {Q : mm_V → mm_H → Prop} {r l j : Nat} {xs : Nat → Int32} {B : hB} (hb : BLf B l) (h : LT r sh V (Int32.ofNat l) (Int32.ofNat l) B) (h6 : l ≤ 600) (hS : S.1 ≤ 3072) (hj : j + 6 ≤ S.1) (hx : ∀ q, S.2 q = some (xs q)) (x5 x6 x7 x8 : Option Value) (w : NXT S Q r j) : WP S 200 mz_M 1422 [some (.ref 0), some (.ref 64), some (.ref 312), some (.ref 323), some (.int (Int32.ofNat j)), x5, x6, x7, x8] [] (hH sh V) Q := by
  refine wp_aload_n KL1422 rfl rfl ?_
  refine wp_aload_n KL1423 rfl rfl ?_
  obtain ⟨v, g, e, k, s, W, e1, e2, h2⟩ := wr341 (S := S) h
  subst e1 e2
  refine wp_cs (st2 := []) KL1424 e (by decide) rfl rfl rfl (by decide) ?_
  refine wp_istore (L1 := [_, _, _, _, _, _, _, _, _]) KL1427 rfl rfl ?_
  refine wp_aload_n KL1429 rfl rfl ?_
  obtain ⟨v8, g8, e8, y, U, e1, e2, hR, hL, hZ⟩ := g313 (S := S) h2.2.2.2.1 h2.2.2.2.2.1
  subst e1 e2
  refine wp_cv (st2 := []) KL1430 e8 (by decide) rfl rfl rfl rfl (by decide) h2.2.2.2.1.o (by decide) ?_
  have h3 := h2.ref hR (hL.trans h2.2.2.2.2.2.2.1) hZ.y (hZ 319 (Or.inr rfl))
  refine wp_istore (L1 := [_, _, _, _, _, _, _, _, _]) KL1433 rfl rfl ?_
  refine wp_goto KL1435 ?_
  exact w _ _ l _ (h3.mono (by omega)) hb h6 _ _ _ _
theorem e_thrown0 {S : ww_S} {sh : List mm_C} {V : hV} (hM : MS sh) {z : Int32} (hz : V.1 312 6 = z) : EV S 1 170 [.ref 312] (hH sh V) (.inl (some (.int z))) (hH sh V) := by
  refine ev_qe P170 rfl ?_
  refine wp_aload_n k170_0 rfl rfl ?_
  refine wp_getI k170_1 (by decide) hM.o rfl z hz ?_
  exact wp_reti k170_4 rfl rfl rfl
theorem lc_self0 (x : Int64) : mm_lcmp x x = 0 := by
  rcases lc_cases x x with h | h | h
  · exact absurd h.2 (Int64.lt_irrefl)
  · exact h.1
  · exact absurd h.2 (Int64.lt_irrefl)
theorem lo2 {S : ww_S} {sh : List mm_C} {V : hV} {Q : mm_V → mm_H → Prop} {r l j : Nat} {xs : Nat → Int32} {B : hB} (hb : BLf B l) (h : LT r sh V (Int32.ofNat l) (Int32.ofNat l) B) (h6 : l ≤ 600) (hS : S.1 ≤ 3072) (hj : j + 6 ≤ S.1) (hx : ∀ q, S.2 q = some (xs q)) (x5 x6 x7 x8 : Option Value) (w : NXT S Q r j) : WP S 200 mz_M 352 [some (.ref 0), some (.ref 64), some (.ref 312), some (.ref 323), some (.int (Int32.ofNat j)), x5, x6, x7, x8] [] (hH sh V) Q := by
  refine wp_aload_n KL352 rfl rfl ?_
  refine wp_aload_n KL353 rfl rfl ?_
  obtain ⟨v, g, e, k, s, W, e1, e2, h2, hd⟩ := wx316 (S := S) h h6
  subst e1 e2
  refine wp_cs (st2 := []) KL354 e (by decide) rfl rfl rfl (by decide) ?_
  refine wp_istore (L1 := [_, _, _, _, _, _, _, _, _]) KL357 rfl rfl ?_
  refine wp_aload_n KL359 rfl rfl ?_
  obtain ⟨v8, g8, e8, ⟨y, U, e1, e2, hR, hL, hZ⟩, e3, e4⟩ := x_readText (S := S) h2.2.2.2.1 h2.2.2.2.2.1 (l := l) h2.2.2.2.2.2.2.1 h6
  subst e1 e2
  refine wp_cv (st2 := []) KL360 e8 (by decide) rfl rfl rfl rfl (by decide) h2.2.2.2.1.o (by decide) ?_
  refine wp_istore (L1 := [_, _, _, _, _, _, _, _, _]) KL363 rfl rfl ?_
  have h3 := h2.ref hR hL hZ.y (hZ 319 (Or.inr rfl))
  have hlike := rt_like (f := V.1 66) (f' := W.1 319) (l := l) (fun q hq => by
    rw [h.2.2.2.2.2.2.2.2.2.2.2.1, h2.2.2.2.2.2.2.2.2.2.2.2.2]
    exact hb q hq) h6 W
  have hr2 := rt_2 (W.1 319) l W
  generalize rtF (W.1 319) l W = R at e3 e4 hlike hr2
  have hy : y = R.1 := Value.int.inj (Option.some.inj (Sum.inl.inj e3))
  have hgo : ∀ y5 y6 y7 y8 : Option Value, WP S 200 mz_M 1438 [some (.ref 0), some (.ref 64), some (.ref 312), some (.ref 323), some (.int (Int32.ofNat j)), y5, y6, y7, y8] [] (hH s U) Q := fun y5 y6 y7 y8 => w _ _ 0 _ (h3.mono (by omega)) (fun k hk => absurd hk (Nat.not_lt_zero k)) (by decide) y5 y6 y7 y8
  rw [e4] at hgo ⊢
  rcases hlike with ⟨a1, a2⟩ | ⟨t, a1, a2, a3⟩
  · obtain rfl : k = 1 := by
      rcases hd with ⟨_, z⟩ | ⟨t, z, _⟩
      · exact z
      · rw [a1] at z
        cases z
    refine wp_aload_n KL365 rfl rfl ?_
    refine wp_cv (st2 := []) KL366 (e_thrown0 (S := S) h2.2.2.2.1 a2) (by decide) rfl rfl rfl rfl (by decide) h2.2.2.2.1.o (by decide) ?_
    refine wp_iload KL369 rfl rfl ?_
    refine wp_if_icmp_eq_T KL371 rfl ?_
    refine wp_iload KL376 rfl rfl ?_
    refine wp_if_ne_T KL378 (by decide) ?_
    refine wp_goto KL393 ?_
    exact hgo _ _ _ _
  · obtain ⟨rfl, ho⟩ : k = 0 ∧ OU W (bcF t.2.2.2.2.2.1) := by
      rcases hd with ⟨z, _⟩ | ⟨t2, z, z2, z3⟩
      · rw [a1] at z
        cases z
      · rw [a1] at z
        cases z
        exact ⟨z2, z3⟩
    refine wp_aload_n KL365 rfl rfl ?_
    refine wp_cv (st2 := []) KL366 (e_thrown0 (S := S) h2.2.2.2.1 a2) (by decide) rfl rfl rfl rfl (by decide) h2.2.2.2.1.o (by decide) ?_
    refine wp_iload KL369 rfl rfl ?_
    refine wp_if_icmp_eq_T KL371 rfl ?_
    refine wp_iload KL376 rfl rfl ?_
    refine wp_if_ne_F KL378 rfl ?_
    refine wp_aload_n KL381 rfl rfl ?_
    refine wp_iconst 0 KL382 (by decide) ?_
    refine wp_laload (x := (bcF t.2.2.2.2.2.1).toInt64) KL383 (by decide) h3.o (by decide) (by rw [hr2]; exact ho) ?_
    refine wp_iload KL384 rfl rfl ?_
    refine wp_i2l KL386 ?_
    refine wp_lcmp KL387 ?_
    refine wp_if_eq_T KL388 (by rw [hy.trans a3]; exact lc_self0 _) ?_
    refine wp_goto KL393 ?_
    exact hgo _ _ _ _
theorem lo8 {S : ww_S} {sh : List mm_C} {V : hV} {Q : mm_V → mm_H → Prop} {r l j : Nat} {xs : Nat → Int32} {B : hB} (hb : BLf B l) (h : LT r sh V (Int32.ofNat l) (Int32.ofNat l) B) (h6 : l ≤ 600) (hS : S.1 ≤ 3072) (hj : j + 6 ≤ S.1) (hx : ∀ q, S.2 q = some (xs q)) (x5 x6 x7 x8 : Option Value) (w : NXT S Q r j) : WP S 200 mz_M 482 [some (.ref 0), some (.ref 64), some (.ref 312), some (.ref 323), some (.int (Int32.ofNat j)), x5, x6, x7, x8] [] (hH sh V) Q := by
  have q497 : ∀ b : Int32, WP S 200 mz_M 497 [some (.ref 0), some (.ref 64), some (.ref 312), some (.ref 323), some (.int (Int32.ofNat j)), x5, x6, x7, x8] [.int b, .ref 64] (hH sh V) Q := by
    intro b
    refine wp_arg (k := 2) (x := xs (j + 2)) KL497 KL498 KL500 KL501 KL502 rfl rfl (by decide) (by omega) hS (hx _) ?_
    refine wp_arg (k := 3) (x := xs (j + 3)) KL503 KL504 KL506 KL507 KL508 rfl rfl (by decide) (by omega) hS (hx _) ?_
    refine wp_aload_n KL509 rfl rfl ?_
    obtain ⟨v, g, e, k, s, W, e1, e2, h2⟩ := wr320 (S := S) h (p1 := b) (p2 := xs (j + 2)) (p3 := xs (j + 3))
    subst e1 e2
    refine wp_cs (st2 := []) KL510 e (by decide) rfl rfl rfl (by decide) ?_
    refine wp_istore (L1 := [_, _, _, _, _, _, _, _, _]) KL513 rfl rfl ?_
    have q530 : ∀ b2 : Int32, WP S 200 mz_M 530 [some (.ref 0), some (.ref 64), some (.ref 312), some (.ref 323), some (.int (Int32.ofNat j)), some (.int k), x6, x7, x8] [.int b2, .ref 312] (hH s W) Q := by
      intro b2
      refine wp_arg (k := 2) (x := xs (j + 2)) KL530 KL531 KL533 KL534 KL535 rfl rfl (by decide) (by omega) hS (hx _) ?_
      refine wp_arg (k := 3) (x := xs (j + 3)) KL536 KL537 KL539 KL540 KL541 rfl rfl (by decide) (by omega) hS (hx _) ?_
      obtain ⟨v8, g8, e8, y, U, e1, e2, hR, hL, hZ⟩ := g257 (S := S) h2.2.2.2.1 h2.2.2.2.2.1 (x := b2) (y := xs (j + 2)) (z := xs (j + 3))
      subst e1 e2
      refine wp_cv (st2 := []) KL542 e8 (by decide) rfl rfl rfl rfl (by decide) h2.2.2.2.1.o (by decide) ?_
      have h3 := h2.ref hR (hL.trans h2.2.2.2.2.2.2.1) hZ.y (hZ 319 (Or.inr rfl))
      refine wp_istore (L1 := [_, _, _, _, _, _, _, _, _]) KL545 rfl rfl ?_
      refine wp_goto KL547 ?_
      exact w _ _ l _ (h3.mono (by omega)) hb h6 _ _ _ _
    refine wp_aload_n KL515 rfl rfl ?_
    refine wp_arg (k := 1) (x := xs (j + 1)) KL516 KL517 KL519 KL520 KL521 rfl rfl (by decide) (by omega) hS (hx _) ?_
    refine wp_if_eq KL522 (fun c => ?_) (fun c => ?_)
    · refine wp_iconst 0 KL529 (by decide) ?_
      exact q530 _
    · refine wp_iconst 1 KL525 (by decide) ?_
      refine wp_goto KL526 ?_
      exact q530 _
  refine wp_aload_n KL482 rfl rfl ?_
  refine wp_arg (k := 1) (x := xs (j + 1)) KL483 KL484 KL486 KL487 KL488 rfl rfl (by decide) (by omega) hS (hx _) ?_
  refine wp_if_eq KL489 (fun c => ?_) (fun c => ?_)
  · refine wp_iconst 0 KL496 (by decide) ?_
    exact q497 _
  · refine wp_iconst 1 KL492 (by decide) ?_
    refine wp_goto KL493 ?_
    exact q497 _
theorem lo34 {S : ww_S} {sh : List mm_C} {V : hV} {Q : mm_V → mm_H → Prop} {r l j : Nat} {xs : Nat → Int32} {B : hB} (hb : BLf B l) (h : LT r sh V (Int32.ofNat l) (Int32.ofNat l) B) (h6 : l ≤ 600) (hS : S.1 ≤ 3072) (hj : j + 6 ≤ S.1) (hx : ∀ q, S.2 q = some (xs q)) (x5 x6 x7 x8 : Option Value) (w : NXT S Q r j) : WP S 200 mz_M 1133 [some (.ref 0), some (.ref 64), some (.ref 312), some (.ref 323), some (.int (Int32.ofNat j)), x5, x6, x7, x8] [] (hH sh V) Q := by
  refine wp_aload_n KL1133 rfl rfl ?_
  obtain ⟨q0, hk⟩ := h.1.who
  obtain ⟨v, g, e, x, W, e1, e2, f, hf⟩ := cw132 (S := S) (V := V) hk
  subst e1 e2
  have h2 := h.fx0 ((fx_0 sh V).q f)
  refine wp_cv (st2 := []) KL1134 e (by decide) rfl rfl rfl rfl (by decide) h.s (by decide) ?_
  refine wp_f2d KL1137 hf ?_
  refine wp_dstore (L1 := [_, _, _, _, _, _, _, _, _]) KL1138 rfl rfl ?_
  refine wp_aload_n KL1140 rfl rfl ?_
  obtain ⟨v8, g8, e8, y, U, e1, e2, hR, hL, hZ, hf2⟩ := g290 (S := S) h2.2.2.2.1 h2.2.2.2.2.1
  subst e1 e2
  refine wp_cv (st2 := []) KL1141 e8 (by decide) rfl rfl rfl rfl (by decide) h2.2.2.2.1.o (by decide) ?_
  have h3 := h2.ref hR (hL.trans h2.2.2.2.2.2.2.1) hZ.y (hZ 319 (Or.inr rfl))
  refine wp_f2d KL1144 hf2 ?_
  refine wp_dstore (L1 := [_, _, _, _, _, _, _, _, _]) KL1145 rfl rfl ?_
  refine wp_goto KL1147 ?_
  exact w _ _ l _ (h3.mono (by omega)) hb h6 _ _ _ _
theorem lo35 {S : ww_S} {sh : List mm_C} {V : hV} {Q : mm_V → mm_H → Prop} {r l j : Nat} {xs : Nat → Int32} {B : hB} (hb : BLf B l) (h : LT r sh V (Int32.ofNat l) (Int32.ofNat l) B) (h6 : l ≤ 600) (hS : S.1 ≤ 3072) (hj : j + 6 ≤ S.1) (hx : ∀ q, S.2 q = some (xs q)) (x5 x6 x7 x8 : Option Value) (w : NXT S Q r j) : WP S 200 mz_M 1150 [some (.ref 0), some (.ref 64), some (.ref 312), some (.ref 323), some (.int (Int32.ofNat j)), x5, x6, x7, x8] [] (hH sh V) Q := by
  refine wp_aload_n KL1150 rfl rfl ?_
  obtain ⟨q0, hk⟩ := h.1.who
  obtain ⟨v, g, e, x, W, e1, e2, f⟩ := cw133 (S := S) hk h.2.1
  subst e1 e2
  have h2 := h.fx0 ((fx_0 sh V).q f)
  refine wp_cv (st2 := []) KL1151 e (by decide) rfl rfl rfl rfl (by decide) h.s (by decide) ?_
  refine wp_dstore (L1 := [_, _, _, _, _, _, _, _, _]) KL1154 rfl rfl ?_
  refine wp_aload_n KL1156 rfl rfl ?_
  obtain ⟨v8, g8, e8, y, U, e1, e2, hR, hL, hZ⟩ := g291 (S := S) h2.2.2.2.1 h2.2.2.2.2.1
  subst e1 e2
  refine wp_cv (st2 := []) KL1157 e8 (by decide) rfl rfl rfl rfl (by decide) h2.2.2.2.1.o (by decide) ?_
  have h3 := h2.ref hR (hL.trans h2.2.2.2.2.2.2.1) hZ.y (hZ 319 (Or.inr rfl))
  refine wp_dstore (L1 := [_, _, _, _, _, _, _, _, _]) KL1160 rfl rfl ?_
  refine wp_goto KL1162 ?_
  exact w _ _ l _ (h3.mono (by omega)) hb h6 _ _ _ _
end M80
