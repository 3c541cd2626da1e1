section M63
/-! ===== bytes: copies, new rows, calls of a superclass's method ===== -/
def isB (x : Int32) : Prop := x.toInt8.toInt32 = x
theorem isB_n (x : Int32) : isB x.toInt8.toInt32 := by
  unfold isB
  rw [Int8.toInt8_toInt32]
theorem f8_n {g : Nat → Int32} {n : Nat} : ∀ (k p : Nat), (∀ i, p ≤ i → i < p + k → isB (g i)) → p + k ≤ n → mm_f8 (he_n g n) p k = true
  | 0, _, _, _ => rfl
  | k + 1, p, h, hn => by
    show (mm_fit .byte (.int (Int32.ofNat (mm_ag 32 (he_n g n) p))) && mm_f8 (he_n g n) (p + 1) k) = true
    rw [he_ag, if_pos (by omega), wx_un, Bool.and_eq_true]
    exact ⟨(mm_eq_iff _ _).mpr (h p (Nat.le_refl _) (by omega)), f8_n k (p + 1) (fun i h1 h2 => h i (by omega) (by omega)) (by omega)⟩
section
variable {S : ww_S} {D : Nat} {M : mm_M} {pc p9 nx : Nat} {L : mm_L} {st : List Value} {sh : List mm_C} {V : hV} {Q : mm_V → mm_H → Prop}
theorem wp_acopyB {u q : Nat} {f t nf nt zf zt a b n : Nat} (hk : mm_lk M.1 pc = some (p9, .invokestatic u, nx, [10, q])) (hb : Nat.ble st.length 4 = true) (hf64 : 64 ≤ f) (ht64 : 64 ≤ t) (hf : sh[f - 64]? = some (.inl (2, nf, zf))) (ht : sh[t - 64]? = some (.inl (2, nt, zt))) (ha : a + n ≤ nf) (hbn : b + n ≤ nt) (hnf : nf ≤ 100000) (hnt : nt ≤ 100000) (h8 : ∀ i, a ≤ i → i < a + n → isB (V.1 f i)) (w : WP S D M nx L st (hH sh (acp V f a t b n)) Q) : WP S D M pc L (.int (Int32.ofNat n) :: .int (Int32.ofNat b) :: .ref t :: .int (Int32.ofNat a) :: .ref f :: st) (hH sh V) Q := by
  have e : (hH sh V).set (t - 64) (.inl (2, nt, mm_cpy 32 (he_n (V.1 f) nf) a (he_n (V.1 t) nt) b n)) = hH sh (acp V f a t b n) := by
    have h := hp_set V (acp V f a t b n) sh 64 (t - 64) (.inl (2, nt, zt)) fun x _ _ hne => ⟨by funext j; show V.1 x j = (acp V f a t b n).1 x j; unfold acp; dsimp only; rw [if_neg (by omega)], rfl⟩
    rw [show 64 + (t - 64) = t by omega, hl_set _ _ _ ht, wx_ar (by decide)] at h
    refine Eq.trans ?_ h
    congr 3
    rw [he_cpy (V.1 f) _ n a b nt (V.1 t) (fun i hi => by rw [he_ag, if_pos (by omega)]) hbn]
    congr 1
    refine he_congr fun j _ => ?_
    unfold acp
    dsimp only
    rw [if_pos rfl]
  refine wp_wr (c := .inl (2, nt, mm_cpy 32 (he_n (V.1 f) nf) a (he_n (V.1 t) nt) b n)) (k := t - 64) hk ?_ (c0 := hc (V.1 t) (V.2 t) (.inl (2, nt, zt))) ?_ rfl (by rw [e]; exact w)
  · have z1 : mm_prim (mm_rd (ww_X S).1 (hH sh V) t) 2 = some (nt, he_n (V.1 t) nt) := wx_prim (by decide) ht64 ht
    have z2 : mm_prim (mm_rd (ww_X S).1 (hH sh V) f) 2 = some (nf, he_n (V.1 f) nf) := wx_prim (by decide) hf64 hf
    simp only [mm_stp, mm_copy]
    rw [z1]
    simp only [mm_copyb]
    rw [z1, z2]
    dsimp only
    rw [i_un (by omega), i_un (by omega), i_un (by omega), hb, Nat.ble_eq_true_of_le (show n ≤ 2147483647 by omega), Nat.ble_eq_true_of_le (show b ≤ 2147483647 by omega), Nat.ble_eq_true_of_le (show a ≤ 2147483647 by omega), f8_n n a h8 ha, Nat.ble_eq_true_of_le ha, Nat.ble_eq_true_of_le hbn]
    simp only [Bool.and_self, mm_fN_eq]
    unfold mm_wr
    rw [Nat.ble_eq_true_of_le ht64]
  · rw [hp_get, ht, show 64 + (t - 64) = t by omega]
    rfl
/-- out of a constant text -/
def acx (V : hV) (N a t b n : Nat) : hV := (fun x j => if x = t then (if b ≤ j ∧ j < b + n then Int32.ofNat (mm_ag 32 N (a + (j - b))) else V.1 t j) else V.1 x j, V.2)
theorem un_ag (N i : Nat) : mm_ag 32 N i = mm_un (Int32.ofNat (mm_ag 32 N i)) := by
  have h : mm_ag 32 N i < 2 ^ 32 := mm_ag_lt 32 N i
  show _ = (Int32.ofNat (mm_ag 32 N i)).toBitVec.toNat
  show _ = (BitVec.ofNat 32 (mm_ag 32 N i)).toNat
  rw [BitVec.toNat_ofNat, Nat.mod_eq_of_lt h]
theorem wp_acopyX {u q : Nat} {f t nf N nt zt a b n : Nat} (hk : mm_lk M.1 pc = some (p9, .invokestatic u, nx, [10, q])) (hb : Nat.ble st.length 4 = true) (hf64 : f < 64) (ht64 : 64 ≤ t) (hf : mm_ext f = some (.inl (2, nf, N))) (ht : sh[t - 64]? = some (.inl (2, nt, zt))) (ha : a + n ≤ nf) (hbn : b + n ≤ nt) (hnf : nf ≤ 100000) (hnt : nt ≤ 100000) (h8 : mm_f8 N a n = true) (w : WP S D M nx L st (hH sh (acx V N a t b n)) Q) : WP S D M pc L (.int (Int32.ofNat n) :: .int (Int32.ofNat b) :: .ref t :: .int (Int32.ofNat a) :: .ref f :: st) (hH sh V) Q := by
  have e : (hH sh V).set (t - 64) (.inl (2, nt, mm_cpy 32 N a (he_n (V.1 t) nt) b n)) = hH sh (acx V N a t b n) := by
    have h := hp_set V (acx V N a t b n) sh 64 (t - 64) (.inl (2, nt, zt)) fun x _ _ hne => ⟨by funext j; show V.1 x j = (acx V N a t b n).1 x j; unfold acx; dsimp only; rw [if_neg (by omega)], rfl⟩
    rw [show 64 + (t - 64) = t by omega, hl_set _ _ _ ht, wx_ar (by decide)] at h
    refine Eq.trans ?_ h
    congr 3
    rw [he_cpy (fun i => Int32.ofNat (mm_ag 32 N i)) _ n a b nt (V.1 t) (fun i _ => un_ag N (a + i)) hbn]
    congr 1
    refine he_congr fun j _ => ?_
    unfold acx
    dsimp only
    rw [if_pos rfl]
  refine wp_wr (c := .inl (2, nt, mm_cpy 32 N a (he_n (V.1 t) nt) b n)) (k := t - 64) hk ?_ (c0 := hc (V.1 t) (V.2 t) (.inl (2, nt, zt))) ?_ rfl (by rw [e]; exact w)
  · have z1 : mm_prim (mm_rd (ww_X S).1 (hH sh V) t) 2 = some (nt, he_n (V.1 t) nt) := wx_prim (by decide) ht64 ht
    have z2 : mm_prim (mm_rd (ww_X S).1 (hH sh V) f) 2 = some (nf, N) := by
      rw [mm_rd_ext (by omega), show (ww_X S).1 f = some (.inl (2, nf, N)) from hf]
      rfl
    simp only [mm_stp, mm_copy]
    rw [z1]
    simp only [mm_copyb]
    rw [z1, z2]
    dsimp only
    rw [i_un (by omega), i_un (by omega), i_un (by omega), hb, Nat.ble_eq_true_of_le (show n ≤ 2147483647 by omega), Nat.ble_eq_true_of_le (show b ≤ 2147483647 by omega), Nat.ble_eq_true_of_le (show a ≤ 2147483647 by omega), h8, Nat.ble_eq_true_of_le ha, Nat.ble_eq_true_of_le hbn]
    simp only [Bool.and_self, mm_fN_eq]
    unfold mm_wr
    rw [Nat.ble_eq_true_of_le ht64]
  · rw [hp_get, ht, show 64 + (t - 64) = t by omega]
    rfl
theorem wp_newarrB {t9 : _} {a n : Nat} (hk : mm_lk M.1 pc = some (p9, .newarray t9, nx, [2])) (hn : n ≤ 1000000) (hl : 64 + sh.length = a) (w : WP S D M nx L (.ref a :: st) (hH (sh ++ [.inl (2, n, 0)]) (clr V a)) Q) : WP S D M pc L (.int (Int32.ofNat n) :: st) (hH sh V) Q := by
  subst hl
  refine wp_mk (c := .inl (2, n, 0)) hk ?_ (st' := .ref (64 + sh.length) :: st) (L' := L) (pc' := nx) ?_
  · simp only [mm_stp]
    rw [i_un (by omega), Nat.ble_eq_true_of_le hn, hp_len]
  · rw [hH_clr V sh (Nat.le_refl _)]
    have e : hc ((clr V (64 + sh.length)).1 (64 + sh.length)) ((clr V (64 + sh.length)).2 (64 + sh.length)) (.inl (2, n, 0)) = .inl (2, n, 0) := by
      show Sum.inl (2, n, he_n _ n) = _
      rw [he_congr (g := fun _ => 0) (fun i _ => by unfold clr; dsimp only; rw [if_pos rfl]), he_zero]
    have h := hp_push (clr V (64 + sh.length)) sh (.inl (2, n, 0))
    rw [e] at h
    rw [h]
    exact w
theorem wx_call4 {u j n ci a : Nat} {r : List Nat} {as st2 : List Value} {fs : List Value} (hb : (Nat.ble n st.length && mm_rst st n) = true) (hv : st[n - 1]? = some (.ref a)) (h64 : 64 ≤ a) (hs : sh[a - 64]? = some (.inr (.inr (ci, fs)))) (ha : (st.take n).reverse = as) (hr : st.drop n = st2) : mm_stp (ww_X S) (hH sh V) L st (p9, .invokespecial u, nx, 4 :: j :: n :: ci :: r) = some (.inr (.inl (j, as, st2))) := by
  subst ha hr
  have hrc : mm_recv (ww_X S) (hH sh V) (some (.ref a)) ci = true := wx_recv h64 hs
  simp only [mm_stp, mm_call]
  rw [hb]
  dsimp only
  rw [hv, hrc]
theorem wp_c4 {u j n ci a D' : Nat} {r : List Nat} {as st2 : List Value} {fs : List Value} {v : Value} {h1 : mm_H} (hk : mm_lk M.1 pc = some (p9, .invokespecial u, nx, 4 :: j :: n :: ci :: r)) (c : EV S D' j as (hH sh V) (.inl (some v)) h1) (hb : (Nat.ble n st.length && mm_rst st n) = true) (ha : (st.take n).reverse = as) (hr : st.drop n = st2) (hv : st[n - 1]? = some (.ref a)) (h64 : 64 ≤ a) (hs : sh[a - 64]? = some (.inr (.inr (ci, fs)))) (hD : D' ≤ D) (w : WP S D M nx L (v :: st2) h1 Q) : WP S D M pc L st (hH sh V) Q := wp_callv hk (wx_call4 hb hv h64 hs ha hr) c hD w
theorem wp_c4n {u j n ci a D' : Nat} {r : List Nat} {as st2 : List Value} {fs : List Value} {h1 : mm_H} (hk : mm_lk M.1 pc = some (p9, .invokespecial u, nx, 4 :: j :: n :: ci :: r)) (c : EV S D' j as (hH sh V) (.inl none) h1) (hb : (Nat.ble n st.length && mm_rst st n) = true) (ha : (st.take n).reverse = as) (hr : st.drop n = st2) (hv : st[n - 1]? = some (.ref a)) (h64 : 64 ≤ a) (hs : sh[a - 64]? = some (.inr (.inr (ci, fs)))) (hD : D' ≤ D) (w : WP S D M nx L st2 h1 Q) : WP S D M pc L st (hH sh V) Q := wp_calln hk (wx_call4 hb hv h64 hs ha hr) c hD w
end
end M63
