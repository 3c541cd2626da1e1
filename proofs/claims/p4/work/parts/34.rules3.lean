/-! ===== rules for texts that the program holds, for new cells, copies of rows, floats ===== -/
section WT
variable {S : ww_S} {D : Nat} {M : mm_M} {pc p9 nx : Nat} {L : mm_L} {st : List Value} {h : mm_H} {Q : mm_V → mm_H → Prop} {ax : List Nat} {sh : List mm_C} {V : hV}
/-- the text at k: n letters, their code N -/
def XS (k n N : Nat) : Prop := k < 62 ∧ mm_ext k = some (.inr (.inr (0, [.ref (k + 1), .int 0]))) ∧ mm_ext (k + 1) = some (.inl (2, n, N)) ∧ n ≤ 1000
theorem wx_extr {a : Nat} {c : mm_C} (ha : a < 64) (hs : mm_ext a = some c) : mm_rd mm_ext h a = some c := by
  unfold mm_rd
  rw [show Nat.ble 64 a = false from Bool.eq_false_iff.mpr fun e => by have := Nat.le_of_ble_eq_true e; omega]
  exact hs
theorem wp_getx {u n0 ci k a : Nat} {r : List Nat} {fs : List Value} {v : Value} (hk : mm_lk M.1 pc = some (p9, .getfield u, nx, n0 :: ci :: k :: r)) (ha : a < 64) (hs : mm_ext a = some (.inr (.inr (ci, fs)))) (hf : fs[k]? = some v) (w : WP S D M nx L (v :: st) h Q) : WP S D M pc L (.ref a :: st) h Q := by
  refine wp_go hk ?_ w
  simp only [mm_stp]
  rw [show mm_rd (ww_X S).1 h a = some (.inr (.inr (ci, fs))) from wx_extr ha hs]
  unfold mm_obj
  dsimp only
  rw [Nat.beq_eq.mpr rfl]
  dsimp only
  rw [hf]
  rfl
theorem wp_cvx {u kd j n ci a D' : Nat} {r : List Nat} {as st2 : List Value} {fs : List Value} {v : Value} {h1 : mm_H} (hk : mm_lk M.1 pc = some (p9, .invokevirtual u, nx, kd :: j :: n :: ci :: r)) (c : EV S D' j as h (.inl (some v)) h1) (hkd : kd = 0 ∨ kd = 5 ∨ kd = 3) (hb : (Nat.ble n st.length && mm_rst st n) = true) (ha : (st.take n).reverse = as) (hr : st.drop n = st2) (hv : st[n - 1]? = some (.ref a)) (h64 : a < 64) (hs : mm_ext a = some (.inr (.inr (ci, fs)))) (hD : D' ≤ D) (w : WP S D M nx L (v :: st2) h1 Q) : WP S D M pc L st h Q := wp_callv hk (wx_callX hkd hb hv (wx_extr h64 hs) (by unfold mm_obj; dsimp only; rw [Nat.beq_eq.mpr rfl]; rfl) ha hr) c hD w
theorem wp_retc (hk : mm_lk M.1 pc = some (p9, .ireturn, nx, ax)) (hM : M.2.2.1 = 3) {x y : Int32} {h' : mm_H} (e : x = y) (hx : mm_un x ≤ 65535) (eh : h = h') : WP S D M pc L [.int x] h (qe (.inl (some (.int y))) h') := by
  subst e eh
  refine wp_ret hk rfl ?_ ⟨rfl, rfl⟩
  rw [hM]
  show (match mm_okR 3 (.int x) with | true => some (Sum.inl (some (Value.int x))) | false => none) = _
  rw [show mm_okR 3 (.int x) = true from Nat.ble_eq_true_of_le hx]
theorem wp_retb (hk : mm_lk M.1 pc = some (p9, .ireturn, nx, ax)) (hM : M.2.2.1 = 4) {x y : Int32} {h' : mm_H} (e : x = y) (hx : x.toInt8.toInt32 = x) (eh : h = h') : WP S D M pc L [.int x] h (qe (.inl (some (.int y))) h') := by
  subst e eh
  refine wp_ret hk rfl ?_ ⟨rfl, rfl⟩
  rw [hM]
  show (match mm_okR 4 (.int x) with | true => some (Sum.inl (some (Value.int x))) | false => none) = _
  rw [show mm_okR 4 (.int x) = true from (mm_eq_iff _ _).mpr hx]
theorem i_char (x : Int32) : mm_un (x.toUInt32 % 65536).toInt32 ≤ 65535 := by
  rw [mm_un_bv]
  show (x.toUInt32 % 65536).toNat ≤ 65535
  rw [UInt32.toNat_mod]
  have := Nat.mod_lt x.toUInt32.toNat (show 0 < (65536 : UInt32).toNat by decide)
  exact Nat.le_of_lt_succ this
/-- the letter i of a text -/
def chr (N i : Nat) : Int32 := ((Int32.ofNat (mm_ag 32 N i) &&& 255).toUInt32 % 65536).toInt32
/-- System.arraycopy of whole numbers -/
theorem he_cpy (g : Nat → Int32) (N : Nat) : ∀ (k p q n : Nat) (f : Nat → Int32), (∀ i, i < k → mm_ag 32 N (p + i) = mm_un (g (p + i))) → q + k ≤ n → mm_cpy 32 N p (he_n f n) q k = he_n (fun j => if q ≤ j ∧ j < q + k then g (p + (j - q)) else f j) n := by
  intro k p q n f hg hq
  refine he_ext fun j => ?_
  rw [mm_cpy_ag 32 N (by decide), he_ag, he_ag]
  by_cases e : q ≤ j ∧ j < q + k
  · rw [if_pos e, if_pos (by omega), if_pos e, hg (j - q) (by omega)]
  · rw [if_neg e, if_neg e]
def acp (V : hV) (f a t b n : Nat) : hV := (fun x j => if x = t then (if b ≤ j ∧ j < b + n then V.1 f (a + (j - b)) else V.1 t j) else V.1 x j, V.2)
theorem wp_acopy {u q : Nat} {f t nf nt zf zt a b n : Nat} (hk : mm_lk M.1 pc = some (p9, .invokestatic u, nx, [10, q])) (hb : Nat.ble st.length 4 = true) (hf64 : 64 ≤ f) (ht64 : 64 ≤ t) (hf : sh[f - 64]? = some (.inl (0, nf, zf))) (ht : sh[t - 64]? = some (.inl (0, nt, zt))) (ha : a + n ≤ nf) (hbn : b + n ≤ nt) (hnf : nf ≤ 100000) (hnt : nt ≤ 100000) (w : WP S D M nx L st (hH sh (acp V f a t b n)) Q) : WP S D M pc L (.int (Int32.ofNat n) :: .int (Int32.ofNat b) :: .ref t :: .int (Int32.ofNat a) :: .ref f :: st) (hH sh V) Q := by
  have e : (hH sh V).set (t - 64) (.inl (0, nt, mm_cpy 32 (he_n (V.1 f) nf) a (he_n (V.1 t) nt) b n)) = hH sh (acp V f a t b n) := by
    have h := hp_set V (acp V f a t b n) sh 64 (t - 64) (.inl (0, nt, zt)) fun x _ _ hne => ⟨by funext j; show V.1 x j = (acp V f a t b n).1 x j; unfold acp; dsimp only; rw [if_neg (by omega)], rfl⟩
    rw [show 64 + (t - 64) = t by omega, hl_set _ _ _ ht, wx_ar (by decide)] at h
    refine Eq.trans ?_ h
    congr 3
    rw [he_cpy (V.1 f) _ n a b nt (V.1 t) (fun i hi => by rw [he_ag, if_pos (by omega)]) hbn]
    congr 1
    refine he_congr fun j _ => ?_
    unfold acp
    dsimp only
    rw [if_pos rfl]
  refine wp_wr (c := .inl (0, nt, mm_cpy 32 (he_n (V.1 f) nf) a (he_n (V.1 t) nt) b n)) (k := t - 64) hk ?_ (c0 := hc (V.1 t) (V.2 t) (.inl (0, nt, zt))) ?_ rfl (by rw [e]; exact w)
  · simp only [mm_stp, mm_copy]
    rw [show mm_prim (mm_rd (ww_X S).1 (hH sh V) t) 2 = none from mm_prim_02 (wx_prim (by decide) ht64 ht)]
    simp only [mm_copyi]
    rw [show mm_prim (mm_rd (ww_X S).1 (hH sh V) f) 0 = some (nf, he_n (V.1 f) nf) from wx_prim (by decide) hf64 hf, show mm_prim (mm_rd (ww_X S).1 (hH sh V) t) 0 = some (nt, he_n (V.1 t) nt) from wx_prim (by decide) ht64 ht]
    dsimp only
    rw [i_un (by omega), i_un (by omega), i_un (by omega), hb, Nat.ble_eq_true_of_le (show n ≤ 2147483647 by omega), Nat.ble_eq_true_of_le (show b ≤ 2147483647 by omega), Nat.ble_eq_true_of_le (show a ≤ 2147483647 by omega), Nat.ble_eq_true_of_le hf64, Nat.ble_eq_true_of_le ha, Nat.ble_eq_true_of_le hbn]
    simp only [Bool.and_self, mm_fN_eq]
    unfold mm_wr
    rw [Nat.ble_eq_true_of_le ht64]
  · rw [hp_get, ht, show 64 + (t - 64) = t by omega]
    rfl
/-- new cells -/
theorem hp_push (V : hV) (sh : List mm_C) (s : mm_C) : hH sh V ++ [hc (V.1 (64 + sh.length)) (V.2 (64 + sh.length)) s] = hH (sh ++ [s]) V := (hp_app V sh 64 s).symm
def clr (V : hV) (a : Nat) : hV := (fun b j => if b = a then 0 else V.1 b j, fun b => if b = a then 0 else V.2 b)
theorem hH_clr (V : hV) (sh : List mm_C) {a : Nat} (h : 64 + sh.length ≤ a) : hH sh V = hH sh (clr V a) := hp_congr sh 64 fun b _ h2 => ⟨by unfold clr; funext j; dsimp only; rw [if_neg (by omega)], by unfold clr; dsimp only; rw [if_neg (by omega)]⟩
theorem wp_newarr {t9 : _} {a n : Nat} (hk : mm_lk M.1 pc = some (p9, .newarray t9, nx, [0])) (hn : n ≤ 1000000) (hl : 64 + sh.length = a) (w : WP S D M nx L (.ref a :: st) (hH (sh ++ [.inl (0, n, 0)]) (clr V a)) Q) : WP S D M pc L (.int (Int32.ofNat n) :: st) (hH sh V) Q := by
  subst hl
  refine wp_mk (c := .inl (0, n, 0)) hk ?_ (st' := .ref (64 + sh.length) :: st) (L' := L) (pc' := nx) ?_
  · simp only [mm_stp]
    rw [i_un (by omega), Nat.ble_eq_true_of_le hn, hp_len]
  · rw [hH_clr V sh (Nat.le_refl _)]
    have e : hc ((clr V (64 + sh.length)).1 (64 + sh.length)) ((clr V (64 + sh.length)).2 (64 + sh.length)) (.inl (0, n, 0)) = .inl (0, n, 0) := by
      show Sum.inl (0, n, he_n _ n) = _
      rw [he_congr (g := fun _ => 0) (fun i _ => by unfold clr; dsimp only; rw [if_pos rfl]), he_zero]
    have h := hp_push (clr V (64 + sh.length)) sh (.inl (0, n, 0))
    rw [e] at h
    rw [h]
    exact w
theorem hz_dflt (f : Nat → Int32) (hf : ∀ k, f k = 0) : ∀ (l : List Value) (k : Nat), (∀ v ∈ l, ∀ z, v = .int z → z = 0) → hz f k l = l
  | [], _, _ => rfl
  | v :: r, k, h => by
    rw [hz_cons, hz_dflt f hf r (k + 1) fun u hu => h u (List.mem_cons_of_mem _ hu)]
    cases v with
    | int z => rw [h _ List.mem_cons_self z rfl]; dsimp only; rw [hf k]
    | _ => rfl
theorem wp_new {u ci a : Nat} {r : List Nat} {fs : List Value} (hk : mm_lk M.1 pc = some (p9, .new u, nx, 0 :: ci :: r)) (hl : 64 + sh.length = a) (hfs : (mm_fty ci).map mm_dflt = fs) (h0 : ∀ v ∈ fs, ∀ z, v = .int z → z = 0) (w : WP S D M nx L (.ref a :: st) (hH (sh ++ [.inr (.inr (ci, fs))]) (clr V a)) Q) : WP S D M pc L st (hH sh V) Q := by
  subst hl
  refine wp_mk (c := .inr (.inr (ci, fs))) hk ?_ (st' := .ref (64 + sh.length) :: st) (L' := L) (pc' := nx) ?_
  · simp only [mm_stp]
    rw [show (ww_X S).2.2.2 ci = mm_fty ci from rfl, hfs, hp_len]
  · rw [hH_clr V sh (Nat.le_refl _)]
    have h := hp_push (clr V (64 + sh.length)) sh (.inr (.inr (ci, fs)))
    rw [show hc ((clr V (64 + sh.length)).1 (64 + sh.length)) ((clr V (64 + sh.length)).2 (64 + sh.length)) (.inr (.inr (ci, fs))) = .inr (.inr (ci, fs)) from by
      show Sum.inr (Sum.inr (ci, hz _ 0 fs)) = _
      rw [hz_dflt _ (fun k => by unfold clr; dsimp only; rw [if_pos rfl]) fs 0 h0]] at h
    rw [h]
    exact w
/-- a reference stored in a field -/
theorem wp_putR {u n0 ci k a q : Nat} {r : List Nat} {fs : List Value} {v0 : Value} {ty : FieldType} (hk : mm_lk M.1 pc = some (p9, .putfield u, nx, n0 :: ci :: k :: r)) (h64 : 64 ≤ a) (hs : sh[a - 64]? = some (.inr (.inr (ci, fs)))) (hf : fs[k]? = some v0) (hty : (mm_fty ci)[k]? = some ty) (hfit : mm_fit ty (.ref q) = true) (w : WP S D M nx L st (hH (sh.set (a - 64) (.inr (.inr (ci, fs.set k (.ref q))))) V) Q) : WP S D M pc L (.ref q :: .ref a :: st) (hH sh V) Q := by
  have e : (hH sh V).set (a - 64) (.inr (.inr (ci, (hz (V.1 a) 0 fs).set k (.ref q)))) = hH (sh.set (a - 64) (.inr (.inr (ci, fs.set k (.ref q))))) V := by
    have h := hp_set V V sh 64 (a - 64) (.inr (.inr (ci, fs.set k (.ref q)))) fun b _ _ _ => ⟨rfl, rfl⟩
    rw [show 64 + (a - 64) = a by omega] at h
    refine Eq.trans ?_ h
    congr 1
    show Sum.inr (Sum.inr (ci, _)) = Sum.inr (Sum.inr (ci, hz (V.1 a) 0 (fs.set k (.ref q))))
    rw [hz_setR _ _ (fun z h => by cases h)]
  refine wp_wr (c := .inr (.inr (ci, (hz (V.1 a) 0 fs).set k (.ref q)))) (k := a - 64) hk ?_ (c0 := hc (V.1 a) (V.2 a) (.inr (.inr (ci, fs)))) ?_ ?_ (by rw [e]; exact w)
  · simp only [mm_stp]
    rw [show mm_obj (mm_rd (ww_X S).1 (hH sh V) a) ci = some (hz (V.1 a) 0 fs) from wx_obj h64 hs]
    dsimp only
    rw [hz_get, hf]
    dsimp only [Option.map]
    rw [show ((ww_X S).2.2.2 ci)[k]? = some ty from hty]
    dsimp only
    rw [hfit]
    dsimp only
    unfold mm_wr
    rw [Nat.ble_eq_true_of_le h64]
  · rw [hp_get, hs, show 64 + (a - 64) = a by omega]
    rfl
  · show mm_sl (.inr (.inr (ci, hz (V.1 a) 0 fs))) = mm_sl (.inr (.inr (ci, (hz (V.1 a) 0 fs).set k (.ref q))))
    show (match Nat.ble 15 ci with | true => 6 | false => (hz (V.1 a) 0 fs).length) = (match Nat.ble 15 ci with | true => 6 | false => ((hz (V.1 a) 0 fs).set k (.ref q)).length)
    rw [List.length_set]
/-- a throw of its own -/
theorem wp_thr {u ci : Nat} {r : List Nat} (hk : mm_lk M.1 pc = some (p9, .new u, nx, 1 :: ci :: r)) (hb : Nat.ble st.length 4 = true) (hM : M.2.2.2 = []) (w : Q (.inr ci) (h ++ [.inr (.inr (ci, []))])) : WP S D M pc L st h Q := wp_throw hk (by simp only [mm_stp]; rw [hb]) hM w
theorem wp_cast {x y : Int32} (e : x = y) (w : WP S D M pc L (.int y :: st) h Q) : WP S D M pc L (.int x :: st) h Q := by
  rw [e]
  exact w
end WT
