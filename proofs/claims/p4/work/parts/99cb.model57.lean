section M57
/-! ===== quotients of counts are numbers; shares and means ===== -/
def OKd (d : Jvm.FP.Core.Datum) : Prop := match d with
  | .nan => False
  | .inf _ => True
  | .fin _ c q => c < 9007199254740992 ∧ q ≤ 971
theorem bo_ok (s : Bool) {c : Nat} (q : Int) (h : c < 9007199254740992) : OKd (Jvm.FP.Core.bound Jvm.FP.Core.b64 s c q) := by
  unfold Jvm.FP.Core.bound
  split
  · rename_i hq
    exact ⟨h, hq⟩
  · trivial
theorem rr_ok (s : Bool) (num den : Nat) (e : Int) : OKd (Jvm.FP.Core.roundRatio Jvm.FP.Core.b64 s num den e) := by
  unfold Jvm.FP.Core.roundRatio
  split
  · exact ⟨by decide, by decide⟩
  · unfold Jvm.FP.Core.roundAt Jvm.FP.Core.settle
    split
    · rename_i h
      exact bo_ok s _ h
    · exact bo_ok s _ (by decide)
theorem en_form {d : Jvm.FP.Core.Datum} (h : OKd d) : ∃ s e t : Nat, Jvm.FP.Core.encode Jvm.FP.Core.b64 d = (s * 2048 + e) * 4503599627370496 + t ∧ s ≤ 1 ∧ t < 4503599627370496 ∧ (e ≤ 2046 ∨ (e = 2047 ∧ t = 0)) := by
  cases d with
  | nan => exact h.elim
  | inf s => exact ⟨s.toNat, 2047, 0, rfl, by cases s <;> decide, by decide, Or.inr ⟨rfl, rfl⟩⟩
  | fin s c q =>
    obtain ⟨h1, h2⟩ := h
    have e : Jvm.FP.Core.encode Jvm.FP.Core.b64 (.fin s c q) = if c < 4503599627370496 then (s.toNat * 2048 + 0) * 4503599627370496 + c else (s.toNat * 2048 + ((q - -1074).toNat + 1)) * 4503599627370496 + (c - 4503599627370496) := rfl
    rw [e]
    have hs : s.toNat ≤ 1 := by cases s <;> decide
    split
    · exact ⟨s.toNat, 0, c, rfl, hs, by omega, Or.inl (by decide)⟩
    · exact ⟨s.toNat, (q - -1074).toNat + 1, c - 4503599627370496, rfl, hs, by omega, Or.inl (by omega)⟩
theorem de_ok {d : Jvm.FP.Core.Datum} (h : OKd d) : ¬ Jvm.FP.Core.decode Jvm.FP.Core.b64 (Jvm.FP.Core.encode Jvm.FP.Core.b64 d) = .nan := by
  obtain ⟨s, e, t, h1, h2, h3, h4⟩ := en_form h
  rw [h1]
  have eE : Jvm.FP.Core.fieldE Jvm.FP.Core.b64 ((s * 2048 + e) * 4503599627370496 + t) = e := by
    show ((s * 2048 + e) * 4503599627370496 + t) / 4503599627370496 % 2048 = e
    omega
  have eT : Jvm.FP.Core.fieldT Jvm.FP.Core.b64 ((s * 2048 + e) * 4503599627370496 + t) = t := by
    show ((s * 2048 + e) * 4503599627370496 + t) % 4503599627370496 = t
    omega
  unfold Jvm.FP.Core.decode
  rw [eE, eT]
  split
  · rename_i h5
    have h5 : e = 2047 := h5
    rw [if_pos (by omega)]
    exact fun q => by cases q
  · split
    · exact fun q => by cases q
    · exact fun q => by cases q
theorem i2d_ok (x : Int32) : ¬ Jvm.FP.Core.decode Jvm.FP.Core.b64 (Jvm.FP.i2d x).toNat = .nan := by
  have h : OKd (Jvm.FP.Core.round Jvm.FP.Core.b64 (Jvm.FP.Core.ofInt x.toInt)) := rr_ok _ _ _ _
  have e : (Jvm.FP.i2d x).toNat = Jvm.FP.Core.encode Jvm.FP.Core.b64 (Jvm.FP.Core.round Jvm.FP.Core.b64 (Jvm.FP.Core.ofInt x.toInt)) := by
    obtain ⟨s, e, t, h1, h2, h3, h4⟩ := en_form h
    show (UInt64.ofNat (Jvm.FP.Core.encode Jvm.FP.Core.b64 (Jvm.FP.Core.round Jvm.FP.Core.b64 (Jvm.FP.Core.ofInt x.toInt)))).toNat = _
    rw [UInt64.toNat_ofNat', h1]
    exact Nat.mod_eq_of_lt (by omega)
  rw [e]
  exact de_ok h
theorem den_ok : ∀ k : Fin 316, k.val ≠ 0 → (match Jvm.FP.Core.decode Jvm.FP.Core.b64 (Jvm.FP.i2d (Int32.ofNat k.val)).toNat with
  | .fin _ d _ => !Nat.beq d 0
  | _ => false) = true := by decide +kernel
theorem dd_ok {x y : Int32} (hy : ∃ k : Nat, 1 ≤ k ∧ k ≤ 315 ∧ y = Int32.ofNat k) : Jvm.FP.ddiv (Jvm.FP.i2d x) (Jvm.FP.i2d y) &&& 0x7fffffffffffffff ≤ 0x7ff0000000000000 := by
  obtain ⟨k, h1, h2, rfl⟩ := hy
  have hd := den_ok ⟨k, by omega⟩ (show k ≠ 0 by omega)
  have hx := i2d_ok x
  have hq : OKd (Jvm.FP.Core.quotient Jvm.FP.Core.b64 (Jvm.FP.Core.decode Jvm.FP.Core.b64 (Jvm.FP.i2d x).toNat) (Jvm.FP.Core.decode Jvm.FP.Core.b64 (Jvm.FP.i2d (Int32.ofNat k)).toNat)) := by
    revert hd hx
    generalize Jvm.FP.Core.decode Jvm.FP.Core.b64 (Jvm.FP.i2d x).toNat = a
    generalize Jvm.FP.Core.decode Jvm.FP.Core.b64 (Jvm.FP.i2d (Int32.ofNat k)).toNat = b
    intro hd hx
    cases b with
    | nan => cases hd
    | inf s => cases hd
    | fin s d r =>
      have hd0 : ¬ d = 0 := fun z => by
        subst z
        cases hd
      cases a with
      | nan => exact absurd rfl hx
      | inf s => trivial
      | fin s c q =>
        show OKd (if d = 0 then _ else Jvm.FP.Core.roundRatio Jvm.FP.Core.b64 _ c d (q - r))
        rw [if_neg hd0]
        exact rr_ok _ _ _ _
  obtain ⟨s, e, t, g1, g2, g3, g4⟩ := en_form hq
  rw [UInt64.le_iff_toNat_le, UInt64.toNat_and]
  have e1 : (Jvm.FP.ddiv (Jvm.FP.i2d x) (Jvm.FP.i2d (Int32.ofNat k))).toNat = (s * 2048 + e) * 4503599627370496 + t := by
    show (UInt64.ofNat (Jvm.FP.Core.encode Jvm.FP.Core.b64 (Jvm.FP.Core.quotient Jvm.FP.Core.b64 _ _))).toNat = _
    rw [UInt64.toNat_ofNat', g1]
    exact Nat.mod_eq_of_lt (by omega)
  rw [e1, show (0x7fffffffffffffff : UInt64).toNat = 2 ^ 63 - 1 from rfl, Nat.and_two_pow_sub_one_eq_mod, show (0x7ff0000000000000 : UInt64).toNat = 9218868437227405312 from rfl]
  omega
theorem ff_ok0 : ∀ a b : Fin 64, b.val ≠ 0 → Jvm.FP.fdiv (Jvm.FP.i2f (Int32.ofNat a.val)) (Jvm.FP.i2f (Int32.ofNat b.val)) &&& 0x7fffffff ≤ 0x7f800000 := by decide +kernel
theorem ff_ok {a b : Nat} (ha : a ≤ 63) (hb : b ≤ 63) (h : ¬ Int32.ofNat b = 0) : Jvm.FP.fdiv (Jvm.FP.i2f (Int32.ofNat a)) (Jvm.FP.i2f (Int32.ofNat b)) &&& 0x7fffffff ≤ 0x7f800000 := ff_ok0 ⟨a, by omega⟩ ⟨b, by omega⟩ fun z => h (by rw [show b = 0 from z]; rfl)
theorem and63 (x : Int32) : ∃ n : Nat, n ≤ 63 ∧ x &&& 63 = Int32.ofNat n := by
  refine ⟨mm_un (x &&& 63), ?_, (wx_un _).symm⟩
  rw [un_and]
  exact Nat.and_le_right
theorem mul_ok {a : Nat} (ha : a ≤ 63) {x : Int32} (hx : ∃ n : Nat, n ≤ 5 ∧ x = Int32.ofNat n) (c : ¬ Int32.ofNat a * x = 0) : ∃ k : Nat, 1 ≤ k ∧ k ≤ 315 ∧ Int32.ofNat a * x = Int32.ofNat k := by
  obtain ⟨n, hn, rfl⟩ := hx
  rw [← Int32.ofNat_mul] at c ⊢
  refine ⟨a * n, ?_, Nat.mul_le_mul ha hn, rfl⟩
  refine Nat.pos_of_ne_zero fun z => c ?_
  rw [z]
  rfl
section WW6
variable {S : ww_S} {D : Nat} {M : mm_M} {pc p9 nx : Nat} {L : mm_L} {st : List Value} {h : mm_H} {Q : mm_V → mm_H → Prop} {ax : List Nat} {sh : List mm_C} {V : hV}
def wB (sh : List mm_C) (V : hV) : mm_V → mm_H → Prop := fun v g => ∃ (n : Nat) (W : hV), n ≤ 63 ∧ v = .inl (some (.int (Int32.ofNat n))) ∧ g = hH sh W ∧ FR sh V W
/-- a float that is a number as a double -/
def FOD (x : UInt32) : Prop := Jvm.FP.f2d x &&& 0x7fffffffffffffff ≤ 0x7ff0000000000000
theorem fo_ok0 : ∀ a b : Fin 64, b.val ≠ 0 → Jvm.FP.f2d (Jvm.FP.fdiv (Jvm.FP.i2f (Int32.ofNat a.val)) (Jvm.FP.i2f (Int32.ofNat b.val))) &&& 0x7fffffffffffffff ≤ 0x7ff0000000000000 := by decide +kernel
theorem fo_ok {a b : Nat} (ha : a ≤ 63) (hb : b ≤ 63) (h : ¬ Int32.ofNat b = 0) : FOD (Jvm.FP.fdiv (Jvm.FP.i2f (Int32.ofNat a)) (Jvm.FP.i2f (Int32.ofNat b))) := fo_ok0 ⟨a, by omega⟩ ⟨b, by omega⟩ fun z => h (by rw [show b = 0 from z]; rfl)
theorem fo_0 : FOD Jvm.FP.fconst0 := by
  show Jvm.FP.f2d Jvm.FP.fconst0 &&& 0x7fffffffffffffff ≤ 0x7ff0000000000000
  decide +kernel
def wF (sh : List mm_C) (V : hV) : mm_V → mm_H → Prop := fun v g => ∃ (x : UInt32) (W : hV), v = .inl (some (.float x)) ∧ g = hH sh W ∧ FR sh V W ∧ FOD x
def wD (sh : List mm_C) (V : hV) : mm_V → mm_H → Prop := fun v g => ∃ (x : UInt64) (W : hV), v = .inl (some (.double x)) ∧ g = hH sh W ∧ FR sh V W
theorem wp_i2f (hk : mm_lk M.1 pc = some (p9, .i2f, nx, ax)) {x : Int32} (w : WP S D M nx L (.float (Jvm.FP.i2f x) :: st) h Q) : WP S D M pc L (.int x :: st) h Q := wp_go hk rfl w
theorem wp_i2d (hk : mm_lk M.1 pc = some (p9, .i2d, nx, ax)) {x : Int32} (w : WP S D M nx L (.double (Jvm.FP.i2d x) :: st) h Q) : WP S D M pc L (.int x :: st) h Q := wp_go hk rfl w
theorem wp_fconst (hk : mm_lk M.1 pc = some (p9, .fconst 0, nx, ax)) (w : WP S D M nx L (.float Jvm.FP.fconst0 :: st) h Q) : WP S D M pc L st h Q := wp_go hk rfl w
theorem wp_dconst (hk : mm_lk M.1 pc = some (p9, .dconst 0, nx, ax)) (w : WP S D M nx L (.double Jvm.FP.dconst0 :: st) h Q) : WP S D M pc L st h Q := wp_go hk rfl w
theorem wp_fdiv (hk : mm_lk M.1 pc = some (p9, .fdiv, nx, ax)) {x y : UInt32} (e : Jvm.FP.fdiv x y &&& 0x7fffffff ≤ 0x7f800000) (w : WP S D M nx L (.float (Jvm.FP.fdiv x y) :: st) h Q) : WP S D M pc L (.float y :: .float x :: st) h Q := wp_go hk (by simp only [mm_stp]; rw [if_pos e]; rfl) w
theorem wp_ddiv (hk : mm_lk M.1 pc = some (p9, .ddiv, nx, ax)) {x y : UInt64} (e : Jvm.FP.ddiv x y &&& 0x7fffffffffffffff ≤ 0x7ff0000000000000) (w : WP S D M nx L (.double (Jvm.FP.ddiv x y) :: st) h Q) : WP S D M pc L (.double y :: .double x :: st) h Q := wp_go hk (by simp only [mm_stp]; rw [if_pos e]; rfl) w
theorem wp_retF (hk : mm_lk M.1 pc = some (p9, .freturn, nx, ax)) (hM : M.2.2.1 = 6) {x : UInt32} (q : Q (.inl (some (.float x))) h) : WP S D M pc L [.float x] h Q := wp_ret hk rfl (by rw [hM]; rfl) q
theorem wp_retD (hk : mm_lk M.1 pc = some (p9, .dreturn, nx, ax)) (hM : M.2.2.1 = 7) {x : UInt64} (q : Q (.inl (some (.double x))) h) : WP S D M pc L [.double x] h Q := wp_ret hk rfl (by rw [hM]; rfl) q
theorem wp_retB (hk : mm_lk M.1 pc = some (p9, .ireturn, nx, ax)) (hM : M.2.2.1 = 1) {x : Int32} {W : hV} (q : ∃ n : Nat, n ≤ 63 ∧ x = Int32.ofNat n) (f : FR sh V W) : WP S D M pc L [.int x] (hH sh W) (wB sh V) := by
  obtain ⟨n, hn, rfl⟩ := q
  exact wp_retI hk hM ⟨n, W, hn, rfl, rfl, f⟩
theorem wcsB {u kd j n D' : Nat} {r : List Nat} {as st2 : List Value} (hk : mm_lk M.1 pc = some (p9, .invokestatic u, nx, kd :: j :: n :: r)) (c : EVQ S D' j as (hH sh V) (wB sh V)) (hkd : kd = 1 ∨ kd = 6 ∨ kd = 8) (hb : (Nat.ble n st.length && mm_rst st n) = true) (ha : (st.take n).reverse = as) (hr : st.drop n = st2) (hD : D' ≤ D) (w : ∀ (m : Nat) (W : hV), m ≤ 63 → FR sh V W → WP S D M nx L (.int (Int32.ofNat m) :: st2) (hH sh W) Q) : WP S D M pc L st (hH sh V) Q := by
  obtain ⟨v, g, e, m, W, hm, rfl, rfl, f⟩ := c
  exact wp_cs hk e hkd hb ha hr hD (w m W hm f)
theorem wcvB {u kd j n ci a D' : Nat} {r : List Nat} {as st2 : List Value} {fs : List Value} (hk : mm_lk M.1 pc = some (p9, .invokevirtual u, nx, kd :: j :: n :: ci :: r)) (c : EVQ S D' j as (hH sh V) (wB sh V)) (hkd : kd = 0 ∨ kd = 5 ∨ kd = 3) (hb : (Nat.ble n st.length && mm_rst st n) = true) (ha : (st.take n).reverse = as) (hr : st.drop n = st2) (hv : st[n - 1]? = some (.ref a)) (h64 : 64 ≤ a) (hs : sh[a - 64]? = some (.inr (.inr (ci, fs)))) (hD : D' ≤ D) (w : ∀ (m : Nat) (W : hV), m ≤ 63 → FR sh V W → WP S D M nx L (.int (Int32.ofNat m) :: st2) (hH sh W) Q) : WP S D M pc L st (hH sh V) Q := by
  obtain ⟨v, g, e, m, W, hm, rfl, rfl, f⟩ := c
  exact wp_cv hk e hkd hb ha hr hv h64 hs hD (w m W hm f)
end WW6
theorem cw360b {S : ww_S} {sh : List mm_C} {V : hV} {p0 : Int32} : EVQ S 1 360 [.int p0] (hH sh V) (wB sh V) := by
  have f0 := FR.r sh V
  refine ev_of P360 rfl ?_
  refine wp_iload_n k360_0 rfl rfl ?_
  refine wp_iload_n k360_1 rfl rfl ?_
  refine wp_iconst 1 k360_2 (by decide) ?_
  refine wp_iushr k360_3 ?_
  refine wp_ldc_wI _ k360_4 rfl ?_
  refine wp_iand k360_7 ?_
  refine wp_isub k360_8 ?_
  refine wp_istore_n (L1 := [_]) k360_9 rfl rfl ?_
  refine wp_iload_n k360_10 rfl rfl ?_
  refine wp_ldc_wI _ k360_11 rfl ?_
  refine wp_iand k360_14 ?_
  refine wp_iload_n k360_15 rfl rfl ?_
  refine wp_iconst 2 k360_16 (by decide) ?_
  refine wp_iushr k360_17 ?_
  refine wp_ldc_wI _ k360_18 rfl ?_
  refine wp_iand k360_21 ?_
  refine wp_iadd k360_22 ?_
  refine wp_istore_n (L1 := [_]) k360_23 rfl rfl ?_
  refine wp_iload_n k360_24 rfl rfl ?_
  refine wp_iload_n k360_25 rfl rfl ?_
  refine wp_iconst 4 k360_26 (by decide) ?_
  refine wp_iushr k360_27 ?_
  refine wp_iadd k360_28 ?_
  refine wp_ldc_wI _ k360_29 rfl ?_
  refine wp_iand k360_32 ?_
  refine wp_istore_n (L1 := [_]) k360_33 rfl rfl ?_
  refine wp_iload_n k360_34 rfl rfl ?_
  refine wp_iload_n k360_35 rfl rfl ?_
  refine wp_bipush 8 k360_36 (by decide) ?_
  refine wp_iushr k360_38 ?_
  refine wp_iadd k360_39 ?_
  refine wp_istore_n (L1 := [_]) k360_40 rfl rfl ?_
  refine wp_iload_n k360_41 rfl rfl ?_
  refine wp_iload_n k360_42 rfl rfl ?_
  refine wp_bipush 16 k360_43 (by decide) ?_
  refine wp_iushr k360_45 ?_
  refine wp_iadd k360_46 ?_
  refine wp_istore_n (L1 := [_]) k360_47 rfl rfl ?_
  refine wp_iload_n k360_48 rfl rfl ?_
  refine wp_bipush 63 k360_49 (by decide) ?_
  refine wp_iand k360_51 ?_
  exact wp_retB k360_52 rfl (and63 _) f0
theorem cw28b {S : ww_S} {sh : List mm_C} {V : hV} {p0 : Nat} (h0 : kKnow sh p0) : EVQ S 2 28 [.ref p0] (hH sh V) (wB sh V) := by
  have f0 := FR.r sh V
  refine ev_of P28 rfl ?_
  refine wp_aload_n k28_0 rfl rfl ?_
  refine wq_getI k28_1 h0.1 rfl ?_
  refine wcsB (st2 := []) k28_4 (cw360b (S := S)) (by decide) rfl rfl rfl (by decide) (fun n4 W4 hn4 g4 => ?_)
  have f4 := FR.t f0 g4
  exact wp_retB k28_7 rfl ⟨_, hn4, rfl⟩ f4
theorem cw132 {S : ww_S} {sh : List mm_C} {V : hV} {q0 : Nat} (h0 : kWho sh q0) : EVQ S 3 132 [.ref 64] (hH sh V) (wF sh V) := by
  have f0 := FR.r sh V
  refine ev_of P132 rfl ?_
  refine wp_aload_n k132_0 rfl rfl ?_
  refine wq_getR k132_1 h0.1 rfl ?_
  refine wq_getR k132_4 h0.2.2.2.2.1 rfl ?_
  refine wq_getI k132_7 h0.2.2.2.2.2.2.2.2.1 rfl ?_
  refine wcsB (st2 := []) k132_10 (cw360b (S := S)) (by decide) rfl rfl rfl (by decide) (fun n10 W10 hn10 g10 => ?_)
  have f10 := FR.t f0 g10
  refine wp_istore_n (L1 := [_, _]) k132_13 rfl rfl ?_
  refine wp_iload_n k132_14 rfl rfl ?_
  refine wp_if_ne k132_15 (fun c15 => ?_) (fun c15 => ?_)
  · refine wp_aload_n k132_22 rfl rfl ?_
    refine wq_getR k132_23 h0.1 rfl ?_
    refine wq_getR k132_26 h0.2.2.2.2.1 rfl ?_
    refine wcvB (st2 := []) k132_29 (cw28b (S := S) h0.2.2.2.2.2.1) (by decide) rfl rfl rfl rfl h0.2.2.2.2.2.1.1.h h0.2.2.2.2.2.1.1.o (by decide) (fun n29 W29 hn29 g29 => ?_)
    have f29 := FR.t f10 g29
    refine wp_i2f k132_32 ?_
    refine wp_iload_n k132_33 rfl rfl ?_
    refine wp_i2f k132_34 ?_
    refine wp_fdiv k132_35 (ff_ok hn29 hn10 c15) ?_
    exact wp_retF k132_36 rfl ⟨_, _, rfl, rfl, f29, fo_ok hn29 hn10 c15⟩
  · refine wp_fconst k132_18 ?_
    refine wp_goto k132_19 ?_
    exact wp_retF k132_36 rfl ⟨_, _, rfl, rfl, f10, fo_0⟩
theorem cw133 {S : ww_S} {sh : List mm_C} {V : hV} {q0 : Nat} (h0 : kWho sh q0) (hC : CN sh V) : EVQ S 3 133 [.ref 64] (hH sh V) (wD sh V) := by
  have f0 := FR.r sh V
  have j4 : ∀ (m4 : Nat) (x1_4 : Int32) (x2_4 : Int32) (W4 : hV), mea x2_4 < m4 → FR sh V W4 → WP S 2 mm_m133 4 [some (.ref 64), some (.int x1_4), some (.int x2_4)] [] (hH sh W4) (wD sh V) := by
    intro m4
    induction m4 with
    | zero =>
      intro x1_4 x2_4 W4 hm4 f4
      exact absurd hm4 (Nat.not_lt_zero _)
    | succ m4 ih4 =>
      intro x1_4 x2_4 W4 hm4 f4
      refine wp_iload_n k133_4 rfl rfl ?_
      refine wp_aload_n k133_5 rfl rfl ?_
      refine wq_getR k133_6 h0.1 rfl ?_
      refine wq_getR k133_9 h0.2.2.2.2.1 rfl ?_
      refine wq_getR k133_12 h0.2.2.2.2.2.2.2.2.1 rfl ?_
      refine wq_getI k133_15 h0.2.2.2.2.2.2.2.2.2.2.1.1 rfl ?_
      refine wp_if_icmp_ge k133_18 (fun c18 => ?_) (fun c18 => ?_)
      · refine wp_aload_n k133_41 rfl rfl ?_
        refine wq_getR k133_42 h0.1 rfl ?_
        refine wq_getR k133_45 h0.2.2.2.2.1 rfl ?_
        refine wcvB (st2 := []) k133_48 (cw28b (S := S) h0.2.2.2.2.2.1) (by decide) rfl rfl rfl rfl h0.2.2.2.2.2.1.1.h h0.2.2.2.2.2.1.1.o (by decide) (fun n48 W48 hn48 g48 => ?_)
        have f48 := FR.t f4 g48
        refine wp_aload_n k133_51 rfl rfl ?_
        refine wq_getR k133_52 h0.1 rfl ?_
        refine wq_getR k133_55 h0.2.2.2.2.1 rfl ?_
        refine wq_getR k133_58 h0.2.2.2.2.2.2.2.2.1 rfl ?_
        refine wq_getI k133_61 h0.2.2.2.2.2.2.2.2.2.2.1.1 rfl ?_
        refine wp_imul k133_64 ?_
        refine wp_istore_n (L1 := [_, _, _]) k133_65 rfl rfl ?_
        refine wp_iload_n k133_66 rfl rfl ?_
        refine wp_if_ne k133_67 (fun c67 => ?_) (fun c67 => ?_)
        · refine wp_iload_n k133_74 rfl rfl ?_
          refine wp_i2d k133_75 ?_
          refine wp_iload_n k133_76 rfl rfl ?_
          refine wp_i2d k133_77 ?_
          refine wp_ddiv k133_78 (dd_ok (mul_ok hn48 (cn_of (f48.2.2 hC) h0.2.2.2.2.2.2.2.2.2.2.1) c67)) ?_
          exact wp_retD k133_79 rfl ⟨_, _, rfl, rfl, f48⟩
        · refine wp_dconst k133_70 ?_
          refine wp_goto k133_71 ?_
          exact wp_retD k133_79 rfl ⟨_, _, rfl, rfl, f48⟩
      · have hd4 : mea (x2_4 + 1) < m4 := Nat.lt_of_lt_of_le (mea_s c18) (Nat.le_of_lt_succ hm4)
        refine wp_iload_n k133_21 rfl rfl ?_
        refine wp_aload_n k133_22 rfl rfl ?_
        refine wq_getR k133_23 h0.1 rfl ?_
        refine wq_getR k133_26 h0.2.2.2.2.1 rfl ?_
        refine wp_iload_n k133_29 rfl rfl ?_
        refine wcvI (st2 := [_]) k133_30 (cw31 (S := S) h0.2.2.2.2.2.1) (by decide) rfl rfl rfl rfl h0.2.2.2.2.2.1.1.h h0.2.2.2.2.2.1.1.o (by decide) (fun x30 W30 g30 => ?_)
        have f30 := FR.t f4 g30
        refine wp_iadd k133_33 ?_
        refine wp_istore_n (L1 := [_, _, _]) k133_34 rfl rfl ?_
        refine wp_iinc (L1 := [_, _, _]) 1 k133_35 rfl (by decide) rfl ?_
        refine wp_goto k133_38 ?_
        exact ih4 _ _ _ hd4 f30
  refine ev_of P133 rfl ?_
  refine wp_iconst 0 k133_0 (by decide) ?_
  refine wp_istore_n (L1 := [_, _, _]) k133_1 rfl rfl ?_
  refine wp_iconst 0 k133_2 (by decide) ?_
  refine wp_istore_n (L1 := [_, _, _]) k133_3 rfl rfl ?_
  exact j4 _ _ _ _ (Nat.lt_succ_self _) f0
theorem q_share {S : ww_S} {sh : List mm_C} {V : hV} (hM : MS sh) {c : Nat} (hc : V.1 313 3 = Int32.ofNat c) (h1 : 1 ≤ c) (h2 : c ≤ 32) : EVQ S 2 290 [.ref 312] (hH sh V) (fun v g => ∃ (x : UInt32) (W : hV), v = .inl (some (.float x)) ∧ g = hH sh W ∧ FrQ V W ∧ FOD x) := by
  refine ev_of P290 rfl ?_
  refine wp_aload_n k290_0 rfl rfl ?_
  refine wp_iconst 0 k290_1 (by decide) ?_
  refine wp_putI k290_2 (by decide) hM.o rfl rfl rfl ?_
  refine wp_aload_n k290_5 rfl rfl ?_
  refine wp_getR k290_6 (by decide) hM.o rfl ?_
  refine wp_iconst 2 k290_9 (by decide) ?_
  refine wp_iaload k290_10 (by decide) hM.a313 (by decide) 2 (by decide) _ rfl ?_
  refine wp_cs (st2 := []) k290_11 e_bits (by decide) rfl rfl rfl (by decide) ?_
  refine wp_i2f k290_14 ?_
  refine wp_aload_n k290_15 rfl rfl ?_
  refine wp_getR k290_16 (by decide) hM.o rfl ?_
  refine wp_iconst 3 k290_19 (by decide) ?_
  refine wp_iaload k290_20 (by decide) hM.a313 (by decide) 3 (by decide) (Int32.ofNat c) hc ?_
  refine wp_i2f k290_21 ?_
  refine wp_fdiv k290_22 (ff_ok (Nat.le_trans (cnt_le _) (by decide)) (by omega) (fun z => by have := i_inj (a := c) (b := 0) (by omega) (by decide) z; omega)) ?_
  exact wp_retF k290_23 rfl ⟨_, _, rfl, rfl, fq_6, fo_ok (Nat.le_trans (cnt_le _) (by decide)) (by omega) (fun z => by have := i_inj (a := c) (b := 0) (by omega) (by decide) z; omega)⟩
end M57
