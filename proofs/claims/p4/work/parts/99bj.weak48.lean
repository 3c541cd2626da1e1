section M48
/-! ===== the class: a state copied, begun; a description read; the end of a text ===== -/
def xN (r : Nat) (L : Int32) (sh : List mm_C) (V : hV) : mm_V → mm_H → Prop := fun v g => ∃ (s : List mm_C) (W : hV), v = .inl none ∧ g = hH s W ∧ FX r L sh V s W
def xI (r : Nat) (L : Int32) (sh : List mm_C) (V : hV) : mm_V → mm_H → Prop := fun v g => ∃ (x : Int32) (s : List mm_C) (W : hV), v = .inl (some (.int x)) ∧ g = hH s W ∧ FX r L sh V s W
def xZ (r : Nat) (L : Int32) (sh : List mm_C) (V : hV) : mm_V → mm_H → Prop := fun v g => ∃ (b : Bool) (s : List mm_C) (W : hV), v = .inl (some (.int (bI b))) ∧ g = hH s W ∧ FX r L sh V s W
def xP (r : Nat) (L : Int32) (sh : List mm_C) (V : hV) (ci : Nat) : mm_V → mm_H → Prop := fun v g => ∃ (s : List mm_C) (W : hV), FX r L sh V s W ∧ ((∃ x : Int32, v = .inl (some (.int x)) ∧ g = hH s W) ∨ (v = .inr ci ∧ g = hH s W ++ [.inr (.inr (ci, []))]))
def xS (r : Nat) (L : Int32) (sh : List mm_C) (V : hV) : mm_V → mm_H → Prop := fun v g => ∃ (q : Nat) (s : List mm_C) (W : hV), v = .inl (some (.ref q)) ∧ g = hH s W ∧ kScene s q ∧ FX r L sh V s W
def wQ (q : Nat) (sh : List mm_C) (V : hV) : mm_V → mm_H → Prop := fun v g => ∃ (W : hV), v = .inl (some (.ref q)) ∧ g = hH sh W ∧ FR sh V W
/-- nothing, or one of the states that are kept -/
def wU (sh : List mm_C) (V : hV) : mm_V → mm_H → Prop := fun v g => g = hH sh V ∧ (v = .inl (some .null) ∨ ∃ b q, v = .inl (some (.ref b)) ∧ STb b ∧ kState sh b q)
section WW5
variable {S : ww_S} {D : Nat} {M : mm_M} {pc p9 nx : Nat} {L : mm_L} {st : List Value} {h : mm_H} {Q : mm_V → mm_H → Prop} {ax : List Nat} {sh : List mm_C} {V : hV} {rr : Nat} {LL : Int32}
theorem wxN {u kd j n ci a D' : Nat} {r : List Nat} {as st2 : List Value} {fs : List Value} (hk : mm_lk M.1 pc = some (p9, .invokevirtual u, nx, kd :: j :: n :: ci :: r)) (c : EVQ S D' j as (hH sh V) (xN rr LL sh V)) (hkd : kd = 0 ∨ kd = 5 ∨ kd = 3) (hb : (Nat.ble n st.length && mm_rst st n) = true) (ha : (st.take n).reverse = as) (hr : st.drop n = st2) (hv : st[n - 1]? = some (.ref a)) (h64 : 64 ≤ a) (hs : sh[a - 64]? = some (.inr (.inr (ci, fs)))) (hD : D' ≤ D) (w : ∀ (s : List mm_C) (W : hV), FX rr LL sh V s W → WP S D M nx L st2 (hH s W) Q) : WP S D M pc L st (hH sh V) Q := by
  obtain ⟨v, g, e, s, W, rfl, rfl, f⟩ := c
  exact wp_cvn hk e hkd hb ha hr hv h64 hs hD (w s W f)
theorem wxI {u kd j n ci a D' : Nat} {r : List Nat} {as st2 : List Value} {fs : List Value} (hk : mm_lk M.1 pc = some (p9, .invokevirtual u, nx, kd :: j :: n :: ci :: r)) (c : EVQ S D' j as (hH sh V) (xI rr LL sh V)) (hkd : kd = 0 ∨ kd = 5 ∨ kd = 3) (hb : (Nat.ble n st.length && mm_rst st n) = true) (ha : (st.take n).reverse = as) (hr : st.drop n = st2) (hv : st[n - 1]? = some (.ref a)) (h64 : 64 ≤ a) (hs : sh[a - 64]? = some (.inr (.inr (ci, fs)))) (hD : D' ≤ D) (w : ∀ (x : Int32) (s : List mm_C) (W : hV), FX rr LL sh V s W → WP S D M nx L (.int x :: st2) (hH s W) Q) : WP S D M pc L st (hH sh V) Q := by
  obtain ⟨v, g, e, x, s, W, rfl, rfl, f⟩ := c
  exact wp_cv hk e hkd hb ha hr hv h64 hs hD (w x s W f)
theorem wxZ {u kd j n ci a D' : Nat} {r : List Nat} {as st2 : List Value} {fs : List Value} (hk : mm_lk M.1 pc = some (p9, .invokevirtual u, nx, kd :: j :: n :: ci :: r)) (c : EVQ S D' j as (hH sh V) (xZ rr LL sh V)) (hkd : kd = 0 ∨ kd = 5 ∨ kd = 3) (hb : (Nat.ble n st.length && mm_rst st n) = true) (ha : (st.take n).reverse = as) (hr : st.drop n = st2) (hv : st[n - 1]? = some (.ref a)) (h64 : 64 ≤ a) (hs : sh[a - 64]? = some (.inr (.inr (ci, fs)))) (hD : D' ≤ D) (w : ∀ (b : Bool) (s : List mm_C) (W : hV), FX rr LL sh V s W → WP S D M nx L (.int (bI b) :: st2) (hH s W) Q) : WP S D M pc L st (hH sh V) Q := by
  obtain ⟨v, g, e, b, s, W, rfl, rfl, f⟩ := c
  exact wp_cv hk e hkd hb ha hr hv h64 hs hD (w b s W f)
theorem wxS {u kd j n ci a D' : Nat} {r : List Nat} {as st2 : List Value} {fs : List Value} (hk : mm_lk M.1 pc = some (p9, .invokevirtual u, nx, kd :: j :: n :: ci :: r)) (c : EVQ S D' j as (hH sh V) (xS rr LL sh V)) (hkd : kd = 0 ∨ kd = 5 ∨ kd = 3) (hb : (Nat.ble n st.length && mm_rst st n) = true) (ha : (st.take n).reverse = as) (hr : st.drop n = st2) (hv : st[n - 1]? = some (.ref a)) (h64 : 64 ≤ a) (hs : sh[a - 64]? = some (.inr (.inr (ci, fs)))) (hD : D' ≤ D) (w : ∀ (q : Nat) (s : List mm_C) (W : hV), kScene s q → FX rr LL sh V s W → WP S D M nx L (.ref q :: st2) (hH s W) Q) : WP S D M pc L st (hH sh V) Q := by
  obtain ⟨v, g, e, q, s, W, rfl, rfl, hq, f⟩ := c
  exact wp_cv hk e hkd hb ha hr hv h64 hs hD (w q s W hq f)
theorem wxU {u kd j n ci a D' : Nat} {r : List Nat} {as st2 : List Value} {fs : List Value} (hk : mm_lk M.1 pc = some (p9, .invokevirtual u, nx, kd :: j :: n :: ci :: r)) (c : EVQ S D' j as (hH sh V) (wU sh V)) (hkd : kd = 0 ∨ kd = 5 ∨ kd = 3) (hb : (Nat.ble n st.length && mm_rst st n) = true) (ha : (st.take n).reverse = as) (hr : st.drop n = st2) (hv : st[n - 1]? = some (.ref a)) (h64 : 64 ≤ a) (hs : sh[a - 64]? = some (.inr (.inr (ci, fs)))) (hD : D' ≤ D) (cw1 : WP S D M nx L (.null :: st2) (hH sh V) Q) (w2 : ∀ b q : Nat, STb b → kState sh b q → WP S D M nx L (.ref b :: st2) (hH sh V) Q) : WP S D M pc L st (hH sh V) Q := by
  obtain ⟨v, g, e, rfl, h⟩ := c
  rcases h with rfl | ⟨b, q, rfl, hb9, hq⟩
  · exact wp_cv hk e hkd hb ha hr hv h64 hs hD cw1
  · exact wp_cv hk e hkd hb ha hr hv h64 hs hD (w2 b q hb9 hq)
end WW5
theorem st_keep {sh : List mm_C} {b q b2 q2 : Nat} (hk : kState sh b q) (h : kState sh b2 q2) : kState (sh.set (b - 64) (stC b q2)) b2 q2 := by
  have e := ex_set (q2 := q2) hk
  refine ⟨⟨h.1.1, h.1.2.1, h.1.2.2.1, ?_⟩, h.2.1.ex e, h.2.2.1.ex e, h.2.2.2.1.ex e, h.2.2.2.2.ex e⟩
  by_cases eb : b - 64 = b2 - 64
  · have eb : b = b2 := by
      have := h.1.h
      have := hk.1.h
      omega
    subst eb
    exact List.getElem?_set_self (List.getElem?_eq_some_iff.mp hk.1.o).1
  · rw [List.getElem?_set_ne eb]
    exact h.1.o
theorem st_new {sh : List mm_C} {b q q2 : Nat} (hk : kState sh b q) (h : kScene sh q2) : kState (sh.set (b - 64) (stC b q2)) b q2 := by
  have e := ex_set (q2 := q2) hk
  exact ⟨⟨hk.1.1, hk.1.2.1, hk.1.2.2.1, List.getElem?_set_self (List.getElem?_eq_some_iff.mp hk.1.o).1⟩, hk.2.1.ex e, hk.2.2.1.ex e, hk.2.2.2.1.ex e, h.ex e⟩
theorem cw88t {S : ww_S} {sh : List mm_C} {V : hV} {p0 q0 : Nat} (h0 : kState sh p0 q0) {p1 q1 : Nat} (h1 : kState sh p1 q1) : WP S 2 mm_m88 8 [some (.ref p0), some (.ref p1)] [] (hH sh V) (wN sh V) := by
  have f0 := FR.r sh V
  refine wp_aload_n k88_8 rfl rfl ?_
  refine wq_getR k88_9 h0.1 rfl ?_
  refine wp_aload_n k88_12 rfl rfl ?_
  refine wq_getR k88_13 h1.1 rfl ?_
  refine wcvN (st2 := []) k88_16 (cw27 (S := S) h0.2.1 h1.2.1) (by decide) rfl rfl rfl rfl h0.2.1.1.h h0.2.1.1.o (by decide) (fun W16 g16 => ?_)
  have f16 := FR.t f0 g16
  refine wp_aload_n k88_19 rfl rfl ?_
  refine wq_getR k88_20 h0.1 rfl ?_
  refine wp_aload_n k88_23 rfl rfl ?_
  refine wq_getR k88_24 h1.1 rfl ?_
  refine wcvN (st2 := []) k88_27 (cw10 (S := S) h0.2.2.1 h1.2.2.1) (by decide) rfl rfl rfl rfl h0.2.2.1.1.h h0.2.2.1.1.o (by decide) (fun W27 g27 => ?_)
  have f27 := FR.t f16 g27
  refine wp_aload_n k88_30 rfl rfl ?_
  refine wq_getR k88_31 h0.1 rfl ?_
  refine wp_aload_n k88_34 rfl rfl ?_
  refine wq_getR k88_35 h1.1 rfl ?_
  refine wcvN (st2 := []) k88_38 (cw44 (S := S) h0.2.2.2.1 h1.2.2.2.1) (by decide) rfl rfl rfl rfl h0.2.2.2.1.1.h h0.2.2.2.1.1.o (by decide) (fun W38 g38 => ?_)
  have f38 := FR.t f27 g38
  exact wp_retN k88_41 rfl ⟨_, rfl, rfl, f38⟩
theorem cw87t {S : ww_S} {sh : List mm_C} {V : hV} {p0 q0 : Nat} (h0 : kState sh p0 q0) {p1 : Nat} (h1 : kScene sh p1) : WP S 2 mm_m87 5 [some (.ref p0), some (.ref p1)] [] (hH sh V) (wN sh V) := by
  have f0 := FR.r sh V
  refine wp_aload_n k87_5 rfl rfl ?_
  refine wq_getR k87_6 h0.1 rfl ?_
  refine wp_aload_n k87_9 rfl rfl ?_
  refine wcvN (st2 := []) k87_10 (cw26 (S := S) h0.2.1 h1) (by decide) rfl rfl rfl rfl h0.2.1.1.h h0.2.1.1.o (by decide) (fun W10 g10 => ?_)
  have f10 := FR.t f0 g10
  refine wp_aload_n k87_13 rfl rfl ?_
  refine wq_getR k87_14 h0.1 rfl ?_
  refine wcvN (st2 := []) k87_17 (cw8 (S := S) h0.2.2.1) (by decide) rfl rfl rfl rfl h0.2.2.1.1.h h0.2.2.1.1.o (by decide) (fun W17 g17 => ?_)
  have f17 := FR.t f10 g17
  refine wp_aload_n k87_20 rfl rfl ?_
  refine wq_getR k87_21 h0.1 rfl ?_
  refine wp_iconst 0 k87_24 (by decide) ?_
  refine wp_iconst 0 k87_25 (by decide) ?_
  refine wcvN (st2 := []) k87_26 (cw9 (S := S) h0.2.2.1) (by decide) rfl rfl rfl rfl h0.2.2.1.1.h h0.2.2.1.1.o (by decide) (fun W26 g26 => ?_)
  have f26 := FR.t f17 g26
  refine wp_aload_n k87_29 rfl rfl ?_
  refine wq_getR k87_30 h0.1 rfl ?_
  refine wcvN (st2 := []) k87_33 (cw43 (S := S) h0.2.2.2.1) (by decide) rfl rfl rfl rfl h0.2.2.2.1.1.h h0.2.2.2.1.1.o (by decide) (fun W33 g33 => ?_)
  have f33 := FR.t f26 g33
  exact wp_retN k87_36 rfl ⟨_, rfl, rfl, f33⟩
theorem cw88 {S : ww_S} {sh : List mm_C} {V : hV} {b q b2 q2 : Nat} (hk : kState sh b q) (h2 : kState sh b2 q2) : EVQ S 3 88 [.ref b, .ref b2] (hH sh V) (xN 0 (V.1 65 4) sh V) := by
  refine ev_of P88 rfl ?_
  refine wp_aload_n k88_0 rfl rfl ?_
  refine wp_aload_n k88_1 rfl rfl ?_
  refine wq_getR k88_2 h2.1 rfl ?_
  refine wp_putR k88_5 hk.1.h hk.1.o rfl rfl rfl ?_
  refine WP.imp (cw88t (st_new hk h2.2.2.2.2) (st_keep hk h2)) ?_
  intro v g ⟨W, e1, e2, f⟩
  exact ⟨_, W, e1, e2, (fx_set hk h2.2.2.2.2).q f⟩
theorem cw87 {S : ww_S} {sh : List mm_C} {V : hV} {b q q2 : Nat} (hk : kState sh b q) (h2 : kScene sh q2) : EVQ S 3 87 [.ref b, .ref q2] (hH sh V) (xN 0 (V.1 65 4) sh V) := by
  refine ev_of P87 rfl ?_
  refine wp_aload_n k87_0 rfl rfl ?_
  refine wp_aload_n k87_1 rfl rfl ?_
  refine wp_putR k87_2 hk.1.h hk.1.o rfl rfl rfl ?_
  refine WP.imp (cw87t (st_new hk h2) (h2.ex (ex_set hk))) ?_
  intro v g ⟨W, e1, e2, f⟩
  exact ⟨_, W, e1, e2, (fx_set hk h2).q f⟩
theorem fx_len {sh : List mm_C} {V : hV} {fs : List Value} (k : kO sh 65 11 fs) (x : Int32) : FX 0 x sh V sh (up V 65 4 x) := by
  have hne : ∀ b, ¬ NP sh b → b ≠ 65 := fun b hb e => hb (e ▸ k.np)
  refine ⟨up_eq _ _ _ _, fun b h1 h2 => ⟨rfl, funext fun j => up_ne _ _ (Or.inl (by omega)), rfl⟩, EX.r sh, fun h => h, fun hc q gs h64 hq => ?_, fun hb => ?_, RM.r sh⟩
  · have hn : q ≠ 65 := fun e => by
      rw [e, k.o] at hq
      cases hq
    rw [up_ne _ _ (Or.inl hn)]
    exact hc q gs h64 hq
  · obtain ⟨q, cap, c, h1, h2, h3, h4, h5, h6, h7, h8, h9, h10⟩ := hb
    have h65 : q ≠ 65 := by omega
    exact ⟨q, cap, c, h1, h2, h3, h4, h5, (up_ne _ _ (Or.inl (by decide))).trans h6, (up_ne _ _ (Or.inl (by decide))).trans h7, h8, h9, fun j => by rw [up_ne _ _ (Or.inl h65)]; exact h10 j⟩
theorem cw66 {S : ww_S} {sh : List mm_C} {V : hV} (h0 : kSrc sh) : EVQ S 1 66 [.ref 65] (hH sh V) (xZ 0 0 sh V) := by
  refine ev_of P66 rfl ?_
  refine wp_aload_n k66_0 rfl rfl ?_
  refine wp_iconst 0 k66_1 (by decide) ?_
  refine wp_putI k66_2 h0.1.h h0.1.o rfl rfl rfl ?_
  refine wp_aload_n k66_5 rfl rfl ?_
  refine wq_getI k66_6 h0.1 rfl ?_
  refine wp_if_ne k66_9 (fun c9 => ?_) (fun c9 => ?_)
  · refine wp_iconst 0 k66_16 (by decide) ?_
    exact wp_retZ (b := false) k66_17 rfl ⟨false, _, _, rfl, rfl, fx_len h0.1 0⟩
  · refine wp_iconst 1 k66_12 (by decide) ?_
    refine wp_goto k66_13 ?_
    exact wp_retZ (b := true) k66_17 rfl ⟨true, _, _, rfl, rfl, fx_len h0.1 0⟩
theorem pa_at : ∀ k : Fin 8, ([some 216, some 228, some 240, some 252, some 264, some 276, some 288, some 300] : List (Option Nat))[k.val]? = some (some (216 + 12 * k.val)) := by decide
theorem cw152 {S : ww_S} {sh : List mm_C} {V : hV} (h0 : WI sh) {x : Int32} : EVQ S 1 152 [.ref 64, .int x] (hH sh V) (wU sh V) := by
  have E : ∀ {L}, WP S 0 mm_m152 22 L [] (hH sh V) (wU sh V) := fun {L} => wp_aconst_null k152_22 (wp_retU k152_23 rfl ⟨rfl, Or.inl rfl⟩)
  refine ev_of P152 rfl ?_
  refine wp_iload_n k152_0 rfl rfl ?_
  refine wp_if_lt k152_1 (fun c1 => E) (fun c1 => ?_)
  refine wp_iload_n k152_4 rfl rfl ?_
  refine wp_aload_n k152_5 rfl rfl ?_
  refine wq_getR k152_6 h0.1 rfl ?_
  refine wp_alenR k152_9 rfl (by decide) h0.2.2.2.2.1 ?_
  refine wp_if_icmp_ge k152_10 (fun c10 => E) (fun c10 => ?_)
  obtain ⟨k, hk, he⟩ := nat_of c1 (n := 8) c10 (by decide)
  subst he
  refine wp_aload_n k152_13 rfl rfl ?_
  refine wq_getR k152_14 h0.1 rfl ?_
  refine wp_iload_n k152_17 rfl rfl ?_
  refine wp_aaload k152_18 (by decide) rfl h0.2.2.2.2.1 (in_of c1 c10 (by decide)) (by rw [i_un (by omega)]; exact pa_at ⟨k, hk⟩) ?_
  refine wp_goto k152_19 ?_
  have hs : STb (216 + 12 * k) := Or.inr (Or.inr ⟨k, hk, rfl⟩)
  obtain ⟨q, hq⟩ := h0.2.2.2.2.2 _ hs
  exact wp_retS k152_23 rfl ⟨rfl, Or.inr ⟨_, q, rfl, hs, hq⟩⟩
theorem cw151 {S : ww_S} {sh : List mm_C} {V : hV} {q0 : Nat} (h0 : kWho sh q0) : EVQ S 1 151 [.ref 64] (hH sh V) (wN sh V) := by
  have f0 := FR.r sh V
  refine ev_of P151 rfl ?_
  refine wp_aload_n k151_0 rfl rfl ?_
  refine wp_iconst 0 k151_1 (by decide) ?_
  refine wq_putI k151_2 h0.1 rfl rfl rfl (Or.inr (by decide)) rfl (fun W2 g2 => ?_)
  have f2 := FR.t f0 g2
  refine wp_aload_n k151_5 rfl rfl ?_
  refine wp_iconst 0 k151_6 (by decide) ?_
  refine wq_putI k151_7 h0.1 rfl rfl rfl (Or.inr (by decide)) rfl (fun W7 g7 => ?_)
  have f7 := FR.t f2 g7
  exact wp_retN k151_10 rfl ⟨_, rfl, rfl, f7⟩
theorem cw150 {S : ww_S} {sh : List mm_C} {V : hV} (hW : WI sh) (hC : CN sh V) : EVQ S 4 150 [.ref 64] (hH sh V) (xN 0 (V.1 65 4) sh V) := by
  have f0 := fx_0 sh V
  have j41 : ∀ (y1_41 : Option Value) (xs0_41 : Int32) (s41 : List mm_C) (W41 : hV), FX 0 (V.1 65 4) sh V s41 W41 → WP S 3 mm_m150 41 [some (.ref 64), y1_41] [.int xs0_41, .ref 64] (hH s41 W41) (xN 0 (V.1 65 4) sh V) := by
    intro y1_41 xs0_41 s41 W41 f41
    have h0 := f41.2.2.2.1 hW
    obtain ⟨q0, k0⟩ := h0.who
    obtain ⟨q9, k9⟩ := h0.2.2.2.2.2 203 (Or.inr (Or.inl rfl))
    refine wq_putI k150_41 k0.1 rfl rfl rfl (Or.inr (by decide)) rfl (fun W41 g41 => ?_)
    have f41 := FX.q f41 g41
    refine wp_aload_n k150_44 rfl rfl ?_
    refine wp_aload_n k150_45 rfl rfl ?_
    refine wq_getI k150_46 k0.1 rfl ?_
    refine wp_iconst 1 k150_49 (by decide) ?_
    refine wp_iadd k150_50 ?_
    refine wp_bipush 8 k150_51 (by decide) ?_
    refine wp_min k150_53 rfl ?_
    refine wq_putI k150_56 k0.1 rfl rfl rfl (Or.inr (by decide)) rfl (fun W56 g56 => ?_)
    have f56 := FX.q f41 g56
    exact wp_retN k150_59 rfl ⟨_, _, rfl, rfl, f56⟩
  have j21 : ∀ (y1_21 : Option Value) (s21 : List mm_C) (W21 : hV), FX 0 (V.1 65 4) sh V s21 W21 → WP S 3 mm_m150 21 [some (.ref 64), y1_21] [] (hH s21 W21) (xN 0 (V.1 65 4) sh V) := by
    intro y1_21 s21 W21 f21
    have h0 := f21.2.2.2.1 hW
    obtain ⟨q0, k0⟩ := h0.who
    obtain ⟨q9, k9⟩ := h0.2.2.2.2.2 203 (Or.inr (Or.inl rfl))
    refine wp_aload_n k150_21 rfl rfl ?_
    refine wp_aload_n k150_22 rfl rfl ?_
    refine wq_getI k150_23 k0.1 rfl ?_
    refine wp_bipush 7 k150_26 (by decide) ?_
    refine wp_if_icmp_ne k150_28 (fun c28 => ?_) (fun c28 => ?_)
    · refine wp_aload_n k150_35 rfl rfl ?_
      refine wq_getI k150_36 k0.1 rfl ?_
      refine wp_iconst 1 k150_39 (by decide) ?_
      refine wp_iadd k150_40 ?_
      exact j41 _ _ _ _ f21
    · refine wp_iconst 0 k150_31 (by decide) ?_
      refine wp_goto k150_32 ?_
      exact j41 _ _ _ _ f21
  have h0 := f0.2.2.2.1 hW
  obtain ⟨q0, k0⟩ := h0.who
  obtain ⟨q9, k9⟩ := h0.2.2.2.2.2 203 (Or.inr (Or.inl rfl))
  refine ev_of P150 rfl ?_
  refine wp_aload_n k150_0 rfl rfl ?_
  refine wp_aload_n k150_1 rfl rfl ?_
  refine wq_getI k150_2 k0.1 rfl ?_
  refine wxU (st2 := []) k150_5 (cw152 (S := S) h0) (by decide) rfl rfl rfl rfl (by decide) k0.1.o (by decide) ?_ (fun b5 q5 hs5 hb5 => ?_)
  · refine wp_astore_n (L1 := [_, _]) k150_8 rfl rfl ?_
    refine wp_aload_n k150_9 rfl rfl ?_
    refine wp_ifnull_n k150_10 ?_
    exact j21 _ _ _ f0
  · refine wp_astore_n (L1 := [_, _]) k150_8 rfl rfl ?_
    refine wp_aload_n k150_9 rfl rfl ?_
    refine wp_ifnull_r k150_10 hb5.1.h ?_
    refine wp_aload_n k150_13 rfl rfl ?_
    refine wp_aload_n k150_14 rfl rfl ?_
    refine wq_getR k150_15 k0.1 rfl ?_
    refine wxN (st2 := []) k150_18 (cw88 (S := S) hb5 k0.2.2.2.2) (by decide) rfl rfl rfl rfl hb5.1.h hb5.1.o (by decide) (fun s18 W18 g18 => ?_)
    have f18 := FX.t f0 g18
    rw [f0.1] at f18
    have h0 := f18.2.2.2.1 hW
    obtain ⟨q0, k0⟩ := h0.who
    obtain ⟨q9, k9⟩ := h0.2.2.2.2.2 203 (Or.inr (Or.inl rfl))
    exact j21 _ _ _ f18
theorem cw154 {S : ww_S} {sh : List mm_C} {V : hV} (hW : WI sh) {p1 : Int32} {p2 : Int32} (hC : CN sh V) : EVQ S 6 154 [.ref 64, .int p1, .int p2] (hH sh V) (xI 0 (V.1 65 4) sh V) := by
  have f0 := fx_0 sh V
  have h0 := f0.2.2.2.1 hW
  obtain ⟨q0, k0⟩ := h0.who
  obtain ⟨q9, k9⟩ := h0.2.2.2.2.2 203 (Or.inr (Or.inl rfl))
  refine ev_of P154 rfl ?_
  refine wp_aload_n k154_0 rfl rfl ?_
  refine wq_getR k154_1 k0.1 rfl ?_
  refine wp_iload_n k154_4 rfl rfl ?_
  refine wp_iload_n k154_5 rfl rfl ?_
  refine wcvI (st2 := []) k154_6 (cw90 (S := S) k0.2.2.2.2) (by decide) rfl rfl rfl rfl (by decide) k0.2.2.2.2.1.o (by decide) (fun x6 W6 g6 => ?_)
  have f6 := FX.q f0 g6
  refine wp_istore_n (L1 := [_, _, _, _]) k154_9 rfl rfl ?_
  refine wp_iload_n k154_10 rfl rfl ?_
  refine wp_if_eq k154_11 (fun c11 => ?_) (fun c11 => ?_)
  · refine wp_aload_n k154_17 rfl rfl ?_
    refine wxN (st2 := []) k154_18 (cw150 (S := S) h0 (f6.2.2.2.2.1 hC)) (by decide) rfl rfl rfl rfl (by decide) k0.1.o (by decide) (fun s18 W18 g18 => ?_)
    have f18 := FX.t f6 g18
    rw [f6.1] at f18
    have h0 := f18.2.2.2.1 hW
    obtain ⟨q0, k0⟩ := h0.who
    obtain ⟨q9, k9⟩ := h0.2.2.2.2.2 203 (Or.inr (Or.inl rfl))
    refine wp_aload_n k154_21 rfl rfl ?_
    refine wq_getR k154_22 k0.1 rfl ?_
    refine wp_iload_n k154_25 rfl rfl ?_
    refine wp_iload_n k154_26 rfl rfl ?_
    refine wcvN (st2 := []) k154_27 (cw92 (S := S) k0.2.2.2.2) (by decide) rfl rfl rfl rfl (by decide) k0.2.2.2.2.1.o (by decide) (fun W27 g27 => ?_)
    have f27 := FX.q f18 g27
    refine wp_aload_n k154_30 rfl rfl ?_
    refine wq_getR k154_31 k0.1 rfl ?_
    refine wq_getR k154_34 k0.2.2.2.2.1 rfl ?_
    refine wcvI (st2 := []) k154_37 (cw28 (S := S) k0.2.2.2.2.2.1) (by decide) rfl rfl rfl rfl k0.2.2.2.2.2.1.1.h k0.2.2.2.2.2.1.1.o (by decide) (fun x37 W37 g37 => ?_)
    have f37 := FX.q f27 g37
    exact wp_retI k154_40 rfl ⟨_, _, _, rfl, rfl, f37⟩
  · refine wp_iload_n k154_14 rfl rfl ?_
    refine wp_ineg k154_15 ?_
    exact wp_retI k154_16 rfl ⟨_, _, _, rfl, rfl, f6⟩
theorem cw134 {S : ww_S} {sh : List mm_C} {V : hV} (hW : WI sh) (hC : CN sh V) : EVQ S 7 134 [.ref 64] (hH sh V) (xI 0 (V.1 65 4) sh V) := by
  have f0 := fx_0 sh V
  have h0 := f0.2.2.2.1 hW
  obtain ⟨q0, k0⟩ := h0.who
  obtain ⟨q9, k9⟩ := h0.2.2.2.2.2 203 (Or.inr (Or.inl rfl))
  refine ev_of P134 rfl ?_
  refine wp_aload_n k134_0 rfl rfl ?_
  refine wp_iconst (-1) k134_1 (by decide) ?_
  refine wp_aload_n k134_2 rfl rfl ?_
  refine wq_getR k134_3 k0.1 rfl ?_
  refine wcvI (st2 := [_, _]) k134_6 (cw89 (S := S) k0.2.2.2.2) (by decide) rfl rfl rfl rfl (by decide) k0.2.2.2.2.1.o (by decide) (fun x6 W6 g6 => ?_)
  have f6 := FX.q f0 g6
  refine wxI (st2 := []) k134_9 (cw154 (S := S) h0 (f6.2.2.2.2.1 hC)) (by decide) rfl rfl rfl rfl (by decide) k0.1.o (by decide) (fun x9 s9 W9 g9 => ?_)
  have f9 := FX.t f6 g9
  rw [f6.1] at f9
  have h0 := f9.2.2.2.1 hW
  obtain ⟨q0, k0⟩ := h0.who
  obtain ⟨q9, k9⟩ := h0.2.2.2.2.2 203 (Or.inr (Or.inl rfl))
  exact wp_retI k134_12 rfl ⟨_, _, _, rfl, rfl, f9⟩
theorem cw135 {S : ww_S} {sh : List mm_C} {V : hV} (hW : WI sh) {p1 : Int32} (hC : CN sh V) : EVQ S 7 135 [.ref 64, .int p1] (hH sh V) (xP 0 (V.1 65 4) sh V 16) := by
  have f0 := fx_0 sh V
  have h0 := f0.2.2.2.1 hW
  obtain ⟨q0, k0⟩ := h0.who
  obtain ⟨q9, k9⟩ := h0.2.2.2.2.2 203 (Or.inr (Or.inl rfl))
  refine ev_of P135 rfl ?_
  refine wp_aload_n k135_0 rfl rfl ?_
  refine wp_iload_n k135_1 rfl rfl ?_
  refine wcvT (st2 := []) k135_2 (cw146 (S := S) k0) (by decide) rfl rfl rfl rfl (by decide) k0.1.o (by decide) rfl (fun W2 g2 => ?_) (fun W2 g2 => ?_)
  rotate_left 1
  · have f2 := FX.q f0 g2
    exact ⟨_, _, f2, Or.inr ⟨rfl, rfl⟩⟩
  have f2 := FX.q f0 g2
  refine wp_aload_n k135_5 rfl rfl ?_
  refine wp_iload_n k135_6 rfl rfl ?_
  refine wp_aload_n k135_7 rfl rfl ?_
  refine wq_getR k135_8 k0.1 rfl ?_
  refine wcvI (st2 := [_, _]) k135_11 (cw89 (S := S) k0.2.2.2.2) (by decide) rfl rfl rfl rfl (by decide) k0.2.2.2.2.1.o (by decide) (fun x11 W11 g11 => ?_)
  have f11 := FX.q f2 g11
  refine wxI (st2 := []) k135_14 (cw154 (S := S) h0 (f11.2.2.2.2.1 hC)) (by decide) rfl rfl rfl rfl (by decide) k0.1.o (by decide) (fun x14 s14 W14 g14 => ?_)
  have f14 := FX.t f11 g14
  rw [f11.1] at f14
  have h0 := f14.2.2.2.1 hW
  obtain ⟨q0, k0⟩ := h0.who
  obtain ⟨q9, k9⟩ := h0.2.2.2.2.2 203 (Or.inr (Or.inl rfl))
  exact wp_retI k135_17 rfl ⟨_, _, f14, Or.inl ⟨_, rfl, rfl⟩⟩
theorem cw136 {S : ww_S} {sh : List mm_C} {V : hV} (hW : WI sh) {p1 : Int32} (hC : CN sh V) : EVQ S 7 136 [.ref 64, .int p1] (hH sh V) (xP 0 (V.1 65 4) sh V 15) := by
  have f0 := fx_0 sh V
  have h0 := f0.2.2.2.1 hW
  obtain ⟨q0, k0⟩ := h0.who
  obtain ⟨q9, k9⟩ := h0.2.2.2.2.2 203 (Or.inr (Or.inl rfl))
  refine ev_of P136 rfl ?_
  refine wp_aload_n k136_0 rfl rfl ?_
  refine wp_iload_n k136_1 rfl rfl ?_
  refine wcvT (st2 := []) k136_2 (cw149 (S := S) k0) (by decide) rfl rfl rfl rfl (by decide) k0.1.o (by decide) rfl (fun W2 g2 => ?_) (fun W2 g2 => ?_)
  rotate_left 1
  · have f2 := FX.q f0 g2
    exact ⟨_, _, f2, Or.inr ⟨rfl, rfl⟩⟩
  have f2 := FX.q f0 g2
  refine wp_iload_n k136_5 rfl rfl ?_
  refine wp_if_ne k136_6 (fun c6 => ?_) (fun c6 => ?_)
  · refine wp_aload_n k136_17 rfl rfl ?_
    refine wxN (st2 := []) k136_18 (cw150 (S := S) h0 (f2.2.2.2.2.1 hC)) (by decide) rfl rfl rfl rfl (by decide) k0.1.o (by decide) (fun s18 W18 g18 => ?_)
    have f18 := FX.t f2 g18
    rw [f2.1] at f18
    have h0 := f18.2.2.2.1 hW
    obtain ⟨q0, k0⟩ := h0.who
    obtain ⟨q9, k9⟩ := h0.2.2.2.2.2 203 (Or.inr (Or.inl rfl))
    refine wp_aload_n k136_21 rfl rfl ?_
    refine wq_getR k136_22 k0.1 rfl ?_
    refine wp_iconst 2 k136_25 (by decide) ?_
    refine wp_iload_n k136_26 rfl rfl ?_
    refine wp_aload_n k136_27 rfl rfl ?_
    refine wq_getR k136_28 k0.1 rfl ?_
    refine wcvI (st2 := [_, _, _]) k136_31 (cw89 (S := S) k0.2.2.2.2) (by decide) rfl rfl rfl rfl (by decide) k0.2.2.2.2.1.o (by decide) (fun x31 W31 g31 => ?_)
    have f31 := FX.q f18 g31
    refine wcvI (st2 := []) k136_34 (cw93 (S := S) k0.2.2.2.2) (by decide) rfl rfl rfl rfl (by decide) k0.2.2.2.2.1.o (by decide) (fun x34 W34 g34 => ?_)
    have f34 := FX.q f31 g34
    exact wp_retI k136_37 rfl ⟨_, _, f34, Or.inl ⟨_, rfl, rfl⟩⟩
  · exact wp_thr k136_9 rfl rfl ⟨_, _, f2, Or.inr ⟨rfl, rfl⟩⟩
theorem cw137 {S : ww_S} {sh : List mm_C} {V : hV} (hW : WI sh) {p1 : Int32} {p2 : Int32} (hC : CN sh V) : EVQ S 5 137 [.ref 64, .int p1, .int p2] (hH sh V) (xP 0 (V.1 65 4) sh V 16) := by
  have f0 := fx_0 sh V
  have h0 := f0.2.2.2.1 hW
  obtain ⟨q0, k0⟩ := h0.who
  obtain ⟨q9, k9⟩ := h0.2.2.2.2.2 203 (Or.inr (Or.inl rfl))
  refine ev_of P137 rfl ?_
  refine wp_aload_n k137_0 rfl rfl ?_
  refine wp_iload_n k137_1 rfl rfl ?_
  refine wcvT (st2 := []) k137_2 (cw146 (S := S) k0) (by decide) rfl rfl rfl rfl (by decide) k0.1.o (by decide) rfl (fun W2 g2 => ?_) (fun W2 g2 => ?_)
  rotate_left 1
  · have f2 := FX.q f0 g2
    exact ⟨_, _, f2, Or.inr ⟨rfl, rfl⟩⟩
  have f2 := FX.q f0 g2
  refine wp_aload_n k137_5 rfl rfl ?_
  refine wp_iload_n k137_6 rfl rfl ?_
  refine wcvT (st2 := []) k137_7 (cw147 (S := S) k0) (by decide) rfl rfl rfl rfl (by decide) k0.1.o (by decide) rfl (fun W7 g7 => ?_) (fun W7 g7 => ?_)
  rotate_left 1
  · have f7 := FX.q f2 g7
    exact ⟨_, _, f7, Or.inr ⟨rfl, rfl⟩⟩
  have f7 := FX.q f2 g7
  refine wp_aload_n k137_10 rfl rfl ?_
  refine wxN (st2 := []) k137_11 (cw150 (S := S) h0 (f7.2.2.2.2.1 hC)) (by decide) rfl rfl rfl rfl (by decide) k0.1.o (by decide) (fun s11 W11 g11 => ?_)
  have f11 := FX.t f7 g11
  rw [f7.1] at f11
  have h0 := f11.2.2.2.1 hW
  obtain ⟨q0, k0⟩ := h0.who
  obtain ⟨q9, k9⟩ := h0.2.2.2.2.2 203 (Or.inr (Or.inl rfl))
  refine wp_aload_n k137_14 rfl rfl ?_
  refine wq_getR k137_15 k0.1 rfl ?_
  refine wp_iconst 3 k137_18 (by decide) ?_
  refine wp_iload_n k137_19 rfl rfl ?_
  refine wcsI (st2 := [_, _]) k137_20 (cw160 (S := S)) (by decide) rfl rfl rfl (by decide) (fun x20 W20 g20 => ?_)
  have f20 := FX.q f11 g20
  refine wp_getstatic k137_23 rfl ?_
  refine wp_iload_n k137_26 rfl rfl ?_
  refine wcsI (st2 := [_, _, _]) k137_27 (cw156x (S := S)) (by decide) rfl rfl rfl (by decide) (fun x27 W27 g27 => ?_)
  have f27 := FX.q f20 g27
  refine wcvI (st2 := []) k137_30 (cw93 (S := S) k0.2.2.2.2) (by decide) rfl rfl rfl rfl (by decide) k0.2.2.2.2.1.o (by decide) (fun x30 W30 g30 => ?_)
  have f30 := FX.q f27 g30
  exact wp_retI k137_33 rfl ⟨_, _, f30, Or.inl ⟨_, rfl, rfl⟩⟩
theorem cw138 {S : ww_S} {sh : List mm_C} {V : hV} (hW : WI sh) {p1 : Int32} (hC : CN sh V) : EVQ S 6 138 [.ref 64, .int p1] (hH sh V) (xP 0 (V.1 65 4) sh V 16) := by
  have f0 := fx_0 sh V
  have h0 := f0.2.2.2.1 hW
  obtain ⟨q0, k0⟩ := h0.who
  obtain ⟨q9, k9⟩ := h0.2.2.2.2.2 203 (Or.inr (Or.inl rfl))
  refine ev_of P138 rfl ?_
  refine wp_aload_n k138_0 rfl rfl ?_
  refine wp_iload_n k138_1 rfl rfl ?_
  refine wcvT (st2 := []) k138_2 (cw147 (S := S) k0) (by decide) rfl rfl rfl rfl (by decide) k0.1.o (by decide) rfl (fun W2 g2 => ?_) (fun W2 g2 => ?_)
  rotate_left 1
  · have f2 := FX.q f0 g2
    exact ⟨_, _, f2, Or.inr ⟨rfl, rfl⟩⟩
  have f2 := FX.q f0 g2
  refine wp_aload_n k138_5 rfl rfl ?_
  refine wxN (st2 := []) k138_6 (cw150 (S := S) h0 (f2.2.2.2.2.1 hC)) (by decide) rfl rfl rfl rfl (by decide) k0.1.o (by decide) (fun s6 W6 g6 => ?_)
  have f6 := FX.t f2 g6
  rw [f2.1] at f6
  have h0 := f6.2.2.2.1 hW
  obtain ⟨q0, k0⟩ := h0.who
  obtain ⟨q9, k9⟩ := h0.2.2.2.2.2 203 (Or.inr (Or.inl rfl))
  refine wp_aload_n k138_9 rfl rfl ?_
  refine wq_getR k138_10 k0.1 rfl ?_
  refine wp_iload_n k138_13 rfl rfl ?_
  refine wcvI (st2 := []) k138_14 (cw94 (S := S) k0.2.2.2.2) (by decide) rfl rfl rfl rfl (by decide) k0.2.2.2.2.1.o (by decide) (fun x14 W14 g14 => ?_)
  have f14 := FX.q f6 g14
  exact wp_retI k138_17 rfl ⟨_, _, f14, Or.inl ⟨_, rfl, rfl⟩⟩
theorem cw143 {S : ww_S} {sh : List mm_C} {V : hV} (hW : WI sh) (hC : CN sh V) : EVQ S 4 143 [.ref 64] (hH sh V) (xI 0 (V.1 65 4) sh V) := by
  have f0 := fx_0 sh V
  have j62 : ∀ (y1_62 : Option Value) (s62 : List mm_C) (W62 : hV), FX 0 (V.1 65 4) sh V s62 W62 → WP S 3 mm_m143 62 [some (.ref 64), y1_62] [] (hH s62 W62) (xI 0 (V.1 65 4) sh V) := by
    intro y1_62 s62 W62 f62
    have h0 := f62.2.2.2.1 hW
    obtain ⟨q0, k0⟩ := h0.who
    obtain ⟨q9, k9⟩ := h0.2.2.2.2.2 203 (Or.inr (Or.inl rfl))
    refine wp_aload_n k143_62 rfl rfl ?_
    refine wq_getI k143_63 k0.1 rfl ?_
    exact wp_retI k143_66 rfl ⟨_, _, _, rfl, rfl, f62⟩
  have j28 : ∀ (xs0_28 : Int32) (s28 : List mm_C) (W28 : hV), FX 0 (V.1 65 4) sh V s28 W28 → WP S 3 mm_m143 28 [some (.ref 64), none] [.int xs0_28, .ref 64] (hH s28 W28) (xI 0 (V.1 65 4) sh V) := by
    intro xs0_28 s28 W28 f28
    have h0 := f28.2.2.2.1 hW
    obtain ⟨q0, k0⟩ := h0.who
    obtain ⟨q9, k9⟩ := h0.2.2.2.2.2 203 (Or.inr (Or.inl rfl))
    refine wq_putI k143_28 k0.1 rfl rfl rfl (Or.inr (by decide)) rfl (fun W28 g28 => ?_)
    have f28 := FX.q f28 g28
    refine wp_aload_n k143_31 rfl rfl ?_
    refine wp_dup k143_32 rfl ?_
    refine wq_getI k143_33 k0.1 rfl ?_
    refine wp_iconst 1 k143_36 (by decide) ?_
    refine wp_isub k143_37 ?_
    refine wq_putI k143_38 k0.1 rfl rfl rfl (Or.inr (by decide)) rfl (fun W38 g38 => ?_)
    have f38 := FX.q f28 g38
    refine wp_aload_n k143_41 rfl rfl ?_
    refine wp_aload_n k143_42 rfl rfl ?_
    refine wq_getI k143_43 k0.1 rfl ?_
    refine wxU (st2 := []) k143_46 (cw152 (S := S) h0) (by decide) rfl rfl rfl rfl (by decide) k0.1.o (by decide) ?_ (fun b46 q46 hs46 hb46 => ?_)
    · refine wp_astore_n (L1 := [_, _]) k143_49 rfl rfl ?_
      refine wp_aload_n k143_50 rfl rfl ?_
      refine wp_ifnull_n k143_51 ?_
      exact j62 _ _ _ f38
    · refine wp_astore_n (L1 := [_, _]) k143_49 rfl rfl ?_
      refine wp_aload_n k143_50 rfl rfl ?_
      refine wp_ifnull_r k143_51 hb46.1.h ?_
      refine wp_aload_n k143_54 rfl rfl ?_
      refine wq_getR k143_55 k0.1 rfl ?_
      refine wp_aload_n k143_58 rfl rfl ?_
      refine wxN (st2 := []) k143_59 (cw88 (S := S) k0.2.2.2.2 hb46) (by decide) rfl rfl rfl rfl (by decide) k0.2.2.2.2.1.o (by decide) (fun s59 W59 g59 => ?_)
      have f59 := FX.t f38 g59
      rw [f38.1] at f59
      have h0 := f59.2.2.2.1 hW
      obtain ⟨q0, k0⟩ := h0.who
      obtain ⟨q9, k9⟩ := h0.2.2.2.2.2 203 (Or.inr (Or.inl rfl))
      exact j62 _ _ _ f59
  have h0 := f0.2.2.2.1 hW
  obtain ⟨q0, k0⟩ := h0.who
  obtain ⟨q9, k9⟩ := h0.2.2.2.2.2 203 (Or.inr (Or.inl rfl))
  refine ev_of P143 rfl ?_
  refine wp_aload_n k143_0 rfl rfl ?_
  refine wq_getI k143_1 k0.1 rfl ?_
  refine wp_if_ne k143_4 (fun c4 => ?_) (fun c4 => ?_)
  · refine wp_aload_n k143_9 rfl rfl ?_
    refine wp_aload_n k143_10 rfl rfl ?_
    refine wq_getI k143_11 k0.1 rfl ?_
    refine wp_if_ne k143_14 (fun c14 => ?_) (fun c14 => ?_)
    · refine wp_aload_n k143_22 rfl rfl ?_
      refine wq_getI k143_23 k0.1 rfl ?_
      refine wp_iconst 1 k143_26 (by decide) ?_
      refine wp_isub k143_27 ?_
      exact j28 _ _ _ f0
    · refine wp_bipush 7 k143_17 (by decide) ?_
      refine wp_goto k143_19 ?_
      exact j28 _ _ _ f0
  · refine wp_iconst (-1) k143_7 (by decide) ?_
    exact wp_retI k143_8 rfl ⟨_, _, _, rfl, rfl, f0⟩
theorem cw144 {S : ww_S} {sh : List mm_C} {V : hV} (hW : WI sh) (hC : CN sh V) : EVQ S 4 144 [.ref 64] (hH sh V) (xI 0 (V.1 65 4) sh V) := by
  have f0 := fx_0 sh V
  have h0 := f0.2.2.2.1 hW
  obtain ⟨q0, k0⟩ := h0.who
  obtain ⟨q9, k9⟩ := h0.2.2.2.2.2 203 (Or.inr (Or.inl rfl))
  refine ev_of P144 rfl ?_
  refine wp_aload_n k144_0 rfl rfl ?_
  refine wq_getR k144_1 k0.1 rfl ?_
  refine wp_aload_n k144_4 rfl rfl ?_
  refine wq_getR k144_5 k0.1 rfl ?_
  refine wxN (st2 := []) k144_8 (cw88 (S := S) k9 k0.2.2.2.2) (by decide) rfl rfl rfl rfl (by decide) k9.1.o (by decide) (fun s8 W8 g8 => ?_)
  have f8 := FX.t f0 g8
  rw [f0.1] at f8
  have h0 := f8.2.2.2.1 hW
  obtain ⟨q0, k0⟩ := h0.who
  obtain ⟨q9, k9⟩ := h0.2.2.2.2.2 203 (Or.inr (Or.inl rfl))
  refine wp_aload_n k144_11 rfl rfl ?_
  refine wp_iconst 1 k144_12 (by decide) ?_
  refine wq_putI k144_13 k0.1 rfl rfl rfl (Or.inr (by decide)) rfl (fun W13 g13 => ?_)
  have f13 := FX.q f8 g13
  refine wp_aload_n k144_16 rfl rfl ?_
  refine wq_getR k144_17 k0.1 rfl ?_
  refine wq_getR k144_20 k0.2.2.2.2.1 rfl ?_
  refine wcvI (st2 := []) k144_23 (cw28 (S := S) k0.2.2.2.2.2.1) (by decide) rfl rfl rfl rfl k0.2.2.2.2.2.1.1.h k0.2.2.2.2.2.1.1.o (by decide) (fun x23 W23 g23 => ?_)
  have f23 := FX.q f13 g23
  exact wp_retI k144_26 rfl ⟨_, _, _, rfl, rfl, f23⟩
theorem cw145 {S : ww_S} {sh : List mm_C} {V : hV} (hW : WI sh) (hC : CN sh V) : EVQ S 4 145 [.ref 64] (hH sh V) (xP 0 (V.1 65 4) sh V 17) := by
  have f0 := fx_0 sh V
  have h0 := f0.2.2.2.1 hW
  obtain ⟨q0, k0⟩ := h0.who
  obtain ⟨q9, k9⟩ := h0.2.2.2.2.2 203 (Or.inr (Or.inl rfl))
  refine ev_of P145 rfl ?_
  refine wp_aload_n k145_0 rfl rfl ?_
  refine wq_getI k145_1 k0.1 rfl ?_
  refine wp_if_ne k145_4 (fun c4 => ?_) (fun c4 => ?_)
  · refine wp_aload_n k145_15 rfl rfl ?_
    refine wq_getR k145_16 k0.1 rfl ?_
    refine wp_aload_n k145_19 rfl rfl ?_
    refine wq_getR k145_20 k0.1 rfl ?_
    refine wxN (st2 := []) k145_23 (cw88 (S := S) k0.2.2.2.2 k9) (by decide) rfl rfl rfl rfl (by decide) k0.2.2.2.2.1.o (by decide) (fun s23 W23 g23 => ?_)
    have f23 := FX.t f0 g23
    rw [f0.1] at f23
    have h0 := f23.2.2.2.1 hW
    obtain ⟨q0, k0⟩ := h0.who
    obtain ⟨q9, k9⟩ := h0.2.2.2.2.2 203 (Or.inr (Or.inl rfl))
    refine wp_aload_n k145_26 rfl rfl ?_
    refine wcvN (st2 := []) k145_27 (cw151 (S := S) k0) (by decide) rfl rfl rfl rfl (by decide) k0.1.o (by decide) (fun W27 g27 => ?_)
    have f27 := FX.q f23 g27
    refine wp_aload_n k145_30 rfl rfl ?_
    refine wq_getR k145_31 k0.1 rfl ?_
    refine wq_getR k145_34 k0.2.2.2.2.1 rfl ?_
    refine wcvI (st2 := []) k145_37 (cw28 (S := S) k0.2.2.2.2.2.1) (by decide) rfl rfl rfl rfl k0.2.2.2.2.2.1.1.h k0.2.2.2.2.2.1.1.o (by decide) (fun x37 W37 g37 => ?_)
    have f37 := FX.q f27 g37
    exact wp_retI k145_40 rfl ⟨_, _, f37, Or.inl ⟨_, rfl, rfl⟩⟩
  · exact wp_thr k145_7 rfl rfl ⟨_, _, f0, Or.inr ⟨rfl, rfl⟩⟩
theorem cw101 {S : ww_S} {sh : List mm_C} {V : hV} (hW : WI sh) (hC : CN sh V) : EVQ S 10 101 [.ref 64] (hH sh V) (xP 0 0 sh V 15) := by
  have f0 := fx_0 sh V
  have j73 : ∀ (x1_73 : Int32) (s73 : List mm_C) (W73 : hV), FX 0 0 sh V s73 W73 → WP S 9 mm_m101 73 [some (.ref 64), some (.int x1_73)] [] (hH s73 W73) (xP 0 0 sh V 15) := by
    intro x1_73 s73 W73 f73
    have h0 := f73.2.2.2.1 hW
    obtain ⟨q0, k0⟩ := h0.who
    obtain ⟨q9, k9⟩ := h0.2.2.2.2.2 203 (Or.inr (Or.inl rfl))
    refine wp_iload_n k101_73 rfl rfl ?_
    exact wp_retI k101_74 rfl ⟨_, _, f73, Or.inl ⟨_, rfl, rfl⟩⟩
  have j38 : ∀ (m38 : Nat) (x1_38 : Int32) (s38 : List mm_C) (W38 : hV), mea x1_38 < m38 → FX 0 0 sh V s38 W38 → WP S 9 mm_m101 38 [some (.ref 64), some (.int x1_38)] [] (hH s38 W38) (xP 0 0 sh V 15) := by
    intro m38
    induction m38 with
    | zero =>
      intro x1_38 s38 W38 hm38 f38
      exact absurd hm38 (Nat.not_lt_zero _)
    | succ m38 ih38 =>
      intro x1_38 s38 W38 hm38 f38
      have h0 := f38.2.2.2.1 hW
      obtain ⟨q0, k0⟩ := h0.who
      obtain ⟨q9, k9⟩ := h0.2.2.2.2.2 203 (Or.inr (Or.inl rfl))
      refine wp_iload_n k101_38 rfl rfl ?_
      refine wp_aload_n k101_39 rfl rfl ?_
      refine wq_getR k101_40 k0.1 rfl ?_
      refine wq_getI k101_43 k0.2.2.1.1 rfl ?_
      refine wp_if_icmp_ge k101_46 (fun c46 => ?_) (fun c46 => ?_)
      · exact j73 _ _ _ f38
      · have hd38 : mea (x1_38 + 1) < m38 := Nat.lt_of_lt_of_le (mea_s c46) (Nat.le_of_lt_succ hm38)
        refine wp_aload_n k101_49 rfl rfl ?_
        refine wq_getR k101_50 k0.1 rfl ?_
        refine wp_aload_n k101_53 rfl rfl ?_
        refine wq_getR k101_54 k0.1 rfl ?_
        refine wp_iload_n k101_57 rfl rfl ?_
        refine wcvO (st2 := [_]) k101_58 (cw56 (S := S) k0.2.2.1) (by decide) rfl rfl rfl rfl (by decide) k0.2.2.1.1.o (by decide) (fun W58 g58 => ?_) (fun a58 W58 ha58 g58 => ?_)
        · have f58 := FX.q f38 g58
          refine wcvZ (st2 := []) k101_61 (cw95n (S := S) k0.2.2.2.2) (by decide) rfl rfl rfl rfl (by decide) k0.2.2.2.2.1.o (by decide) (fun b61 W61 g61 => ?_)
          have f61 := FX.q f58 g61
          refine wp_if_eq k101_64 (fun c64 => ?_) (fun c64 => ?_)
          · exact j73 _ _ _ f61
          · refine wp_iinc (L1 := [_, _]) 1 k101_67 rfl (by decide) rfl ?_
            refine wp_goto k101_70 ?_
            exact ih38 _ _ _ hd38 f61
        · have f58 := FX.q f38 g58
          refine wcvZ (st2 := []) k101_61 (cw95 (S := S) k0.2.2.2.2 ha58) (by decide) rfl rfl rfl rfl (by decide) k0.2.2.2.2.1.o (by decide) (fun b61 W61 g61 => ?_)
          have f61 := FX.q f58 g61
          refine wp_if_eq k101_64 (fun c64 => ?_) (fun c64 => ?_)
          · exact j73 _ _ _ f61
          · refine wp_iinc (L1 := [_, _]) 1 k101_67 rfl (by decide) rfl ?_
            refine wp_goto k101_70 ?_
            exact ih38 _ _ _ hd38 f61
  have h0 := f0.2.2.2.1 hW
  obtain ⟨q0, k0⟩ := h0.who
  obtain ⟨q9, k9⟩ := h0.2.2.2.2.2 203 (Or.inr (Or.inl rfl))
  refine ev_of P101 rfl ?_
  refine wp_aload_n k101_0 rfl rfl ?_
  refine wq_getR k101_1 k0.1 rfl ?_
  refine wp_aload_n k101_4 rfl rfl ?_
  refine wq_getR k101_5 k0.1 rfl ?_
  refine wq_getR k101_8 k0.2.2.2.2.1 rfl ?_
  refine wcvN (st2 := []) k101_11 (cw57 (S := S) k0.2.2.1 k0.2.2.2.2.2.2.2.2 (f0.2.2.2.2.1 hC)) (by decide) rfl rfl rfl rfl (by decide) k0.2.2.1.1.o (by decide) (fun W11 g11 => ?_)
  have f11 := FX.q f0 g11
  refine wp_aload_n k101_14 rfl rfl ?_
  refine wq_getR k101_15 k0.1 rfl ?_
  refine wxZ (st2 := []) k101_18 (cw66 (S := S) k0.2.1.2.1) (by decide) rfl rfl rfl rfl (by decide) k0.2.1.2.1.1.o (by decide) (fun b18 s18 W18 g18 => ?_)
  have f18 := FX.t f11 g18
  have h0 := f18.2.2.2.1 hW
  obtain ⟨q0, k0⟩ := h0.who
  obtain ⟨q9, k9⟩ := h0.2.2.2.2.2 203 (Or.inr (Or.inl rfl))
  refine wp_if_ne k101_21 (fun c21 => ?_) (fun c21 => ?_)
  · refine wp_aload_n k101_32 rfl rfl ?_
    refine wxN (st2 := []) k101_33 (cw150 (S := S) h0 (f18.2.2.2.2.1 hC)) (by decide) rfl rfl rfl rfl (by decide) k0.1.o (by decide) (fun s33 W33 g33 => ?_)
    have f33 := FX.t f18 g33
    rw [f18.1] at f33
    have h0 := f33.2.2.2.1 hW
    obtain ⟨q0, k0⟩ := h0.who
    obtain ⟨q9, k9⟩ := h0.2.2.2.2.2 203 (Or.inr (Or.inl rfl))
    refine wp_iconst 0 k101_36 (by decide) ?_
    refine wp_istore_n (L1 := [_, _]) k101_37 rfl rfl ?_
    exact j38 _ _ _ _ (Nat.lt_succ_self _) f33
  · exact wp_thr k101_24 rfl rfl ⟨_, _, f18, Or.inr ⟨rfl, rfl⟩⟩
theorem cw102 {S : ww_S} {sh : List mm_C} {V : hV} (hW : WI sh) (hC : CN sh V) : EVQ S 9 102 [.ref 64] (hH sh V) (xP 0 0 sh V 15) := by
  have f0 := fx_0 sh V
  have h0 := f0.2.2.2.1 hW
  obtain ⟨q0, k0⟩ := h0.who
  obtain ⟨q9, k9⟩ := h0.2.2.2.2.2 203 (Or.inr (Or.inl rfl))
  refine ev_of P102 rfl ?_
  refine wp_aload_n k102_0 rfl rfl ?_
  refine wq_getR k102_1 k0.1 rfl ?_
  refine wcvN (st2 := []) k102_4 (cw65 (S := S) k0.2.1.2.1) (by decide) rfl rfl rfl rfl (by decide) k0.2.1.2.1.1.o (by decide) (fun W4 g4 => ?_)
  have f4 := FX.q f0 g4
  refine wp_aload_n k102_7 rfl rfl ?_
  refine wq_getR k102_8 k0.1 rfl ?_
  refine wp_aload_n k102_11 rfl rfl ?_
  refine wq_getR k102_12 k0.1 rfl ?_
  refine wq_getR k102_15 k0.2.2.2.2.1 rfl ?_
  refine wp_iconst 0 k102_18 (by decide) ?_
  refine wp_aload_n k102_19 rfl rfl ?_
  refine wq_getR k102_20 k0.1 rfl ?_
  refine wcvN (st2 := []) k102_23 (cw17 (S := S) k0.2.1.2.2.1 k0.2.2.2.2.2.2.2.2 k0.2.1.2.2.2.1) (by decide) rfl rfl rfl rfl (by decide) k0.2.1.2.2.1.1.o (by decide) (fun W23 g23 => ?_)
  have f23 := FX.q f4 g23
  refine wp_aload_n k102_26 rfl rfl ?_
  refine wq_getR k102_27 k0.1 rfl ?_
  refine wcvN (st2 := []) k102_30 (cw81 (S := S) k0.2.1.2.1) (by decide) rfl rfl rfl rfl (by decide) k0.2.1.2.1.1.o (by decide) (fun W30 g30 => ?_)
  have f30 := FX.q f23 g30
  refine wp_aload_n k102_33 rfl rfl ?_
  refine wq_getR k102_34 k0.1 rfl ?_
  refine wxZ (st2 := []) k102_37 (cw66 (S := S) k0.2.1.2.1) (by decide) rfl rfl rfl rfl (by decide) k0.2.1.2.1.1.o (by decide) (fun b37 s37 W37 g37 => ?_)
  have f37 := FX.t f30 g37
  have h0 := f37.2.2.2.1 hW
  obtain ⟨q0, k0⟩ := h0.who
  obtain ⟨q9, k9⟩ := h0.2.2.2.2.2 203 (Or.inr (Or.inl rfl))
  refine wp_if_ne k102_40 (fun c40 => ?_) (fun c40 => ?_)
  · refine wp_aload_n k102_51 rfl rfl ?_
    refine wxN (st2 := []) k102_52 (cw150 (S := S) h0 (f37.2.2.2.2.1 hC)) (by decide) rfl rfl rfl rfl (by decide) k0.1.o (by decide) (fun s52 W52 g52 => ?_)
    have f52 := FX.t f37 g52
    rw [f37.1] at f52
    have h0 := f52.2.2.2.1 hW
    obtain ⟨q0, k0⟩ := h0.who
    obtain ⟨q9, k9⟩ := h0.2.2.2.2.2 203 (Or.inr (Or.inl rfl))
    refine wp_aload_n k102_55 rfl rfl ?_
    refine wq_getR k102_56 k0.1 rfl ?_
    refine wq_getR k102_59 k0.2.2.2.2.1 rfl ?_
    refine wp_aload_n k102_62 rfl rfl ?_
    refine wq_getR k102_63 k0.1 rfl ?_
    refine wcvN (st2 := []) k102_66 (cw10 (S := S) k0.2.2.2.2.2.2.1 k0.2.1.2.2.2.1) (by decide) rfl rfl rfl rfl k0.2.2.2.2.2.2.1.1.h k0.2.2.2.2.2.2.1.1.o (by decide) (fun W66 g66 => ?_)
    have f66 := FX.q f52 g66
    refine wp_aload_n k102_69 rfl rfl ?_
    refine wq_getR k102_70 k0.1 rfl ?_
    refine wq_getR k102_73 k0.2.2.2.2.1 rfl ?_
    refine wq_getI k102_76 k0.2.2.2.2.2.2.1.1 rfl ?_
    exact wp_retI k102_79 rfl ⟨_, _, f66, Or.inl ⟨_, rfl, rfl⟩⟩
  · exact wp_thr k102_43 rfl rfl ⟨_, _, f37, Or.inr ⟨rfl, rfl⟩⟩
end M48
