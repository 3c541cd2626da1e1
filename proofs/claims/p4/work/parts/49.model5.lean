section M5
/-! ===== the reference: words and names ===== -/
def pk (k : Nat) : Bool := !(Nat.beq k 11 || (Nat.beq k 12 || (Nat.beq k 13 || (Nat.beq k 14 || Nat.beq k 15))))
theorem pk_g {k : Nat} (h : pk k = true) (a b w : Nat) (e ea : Int32) : (if k = 11 then some (Int32.ofNat a) else if k = 12 then some (Int32.ofNat b) else if k = 13 then some (Int32.ofNat w) else if k = 14 then some e else if k = 15 then some ea else none) = (none : Option Int32) := by
  unfold pk at h
  simp only [Bool.not_eq_true', Bool.or_eq_false_iff] at h
  obtain ⟨h1, h2, h3, h4, h5⟩ := h
  rw [if_neg (fun q => by subst q; cases h1), if_neg (fun q => by subst q; cases h2), if_neg (fun q => by subst q; cases h3), if_neg (fun q => by subst q; cases h4), if_neg (fun q => by subst q; cases h5)]
theorem ps_get (V : hV) (a b w : Nat) (e ea : Int32) {c k : Nat} (h : (!(Nat.beq c 312) || pk k) = true) : (ps V a b w e ea).1 c k = V.1 c k := by
  by_cases hc : c = 312
  · subst hc
    exact ovr_none V (pk_g h a b w e ea)
  · exact ovr_ne V _ hc k
theorem ps_up (V : hV) (a b w : Nat) (e ea x : Int32) {c k : Nat} (h : (!(Nat.beq c 312) || pk k) = true) : up (ps V a b w e ea) c k x = ps (up V c k x) a b w e ea := by
  refine hV_ext (fun b' j => ?_) rfl
  by_cases h1 : b' = 312
  · subst h1
    cases hp : pk j with
    | true =>
      rw [ps_get _ _ _ _ _ _ (c := 312) (k := j) hp]
      by_cases h2 : 312 = c ∧ j = k
      · obtain ⟨rfl, rfl⟩ := h2
        rw [up_eq, up_eq]
      · have h3 : 312 ≠ c ∨ j ≠ k := by omega
        rw [up_ne _ _ h3, up_ne _ _ h3, ps_get _ _ _ _ _ _ (c := 312) (k := j) hp]
    | false =>
      have h3 : 312 ≠ c ∨ j ≠ k := by
        by_cases hc : 312 = c
        · subst hc
          refine Or.inr fun q => ?_
          subst q
          have h : pk j = true := h
          rw [hp] at h
          cases h
        · exact Or.inl hc
      rw [up_ne _ _ h3]
      unfold pk at hp
      simp only [Bool.not_eq_false', Bool.or_eq_true, Nat.beq_eq] at hp
      rcases hp with rfl | rfl | rfl | rfl | rfl <;> rfl
  · rw [show (ps (up V c k x) a b w e ea).1 b' j = (up V c k x).1 b' j from ovr_ne _ _ h1 j]
    by_cases h2 : b' = c ∧ j = k
    · obtain ⟨rfl, rfl⟩ := h2
      rw [up_eq, up_eq]
    · have h3 : b' ≠ c ∨ j ≠ k := by omega
      rw [up_ne _ _ h3, up_ne _ _ h3]
      exact ovr_ne _ _ h1 j
section WQ
variable {S : ww_S} {D : Nat} {M : mm_M} {pc p9 nx : Nat} {L : mm_L} {st : List Value} {Q : mm_V → mm_H → Prop} {ax : List Nat} {sh : List mm_C} {V : hV} {a0 b0 w0 : Nat} {e0 ea0 : Int32}
theorem wp_getIP {u n0 ci k a : Nat} {r : List Nat} {fs : List Value} {z : Int32} (hk : mm_lk M.1 pc = some (p9, .getfield u, nx, n0 :: ci :: k :: r)) (h64 : 64 ≤ a) (hs : sh[a - 64]? = some (.inr (.inr (ci, fs)))) (hf : fs[k]? = some (.int z)) (hp : (!(Nat.beq a 312) || pk k) = true) (x : Int32) (hx : V.1 a k = x) (w : WP S D M nx L (.int x :: st) (hH sh (ps V a0 b0 w0 e0 ea0)) Q) : WP S D M pc L (.ref a :: st) (hH sh (ps V a0 b0 w0 e0 ea0)) Q := wp_getI hk h64 hs hf x (by rw [ps_get _ _ _ _ _ _ hp, hx]) w
theorem wp_ialoadP {a n z : Nat} {i : Int32} (hk : mm_lk M.1 pc = some (p9, .iaload, nx, ax)) (h64 : 64 ≤ a) (hs : sh[a - 64]? = some (.inl (0, n, z))) (hi : mm_in i n = true) (q : Nat) (hq : mm_un i = q) (hp : Nat.beq a 312 = false) (x : Int32) (hx : V.1 a q = x) (w : WP S D M nx L (.int x :: st) (hH sh (ps V a0 b0 w0 e0 ea0)) Q) : WP S D M pc L (.int i :: .ref a :: st) (hH sh (ps V a0 b0 w0 e0 ea0)) Q := wp_iaload hk h64 hs hi q hq x (by rw [ps_get _ _ _ _ _ _ (by rw [hp]; rfl), hx]) w
theorem wp_iastoreP {a n z : Nat} {i x : Int32} (hk : mm_lk M.1 pc = some (p9, .iastore, nx, ax)) (h64 : 64 ≤ a) (hs : sh[a - 64]? = some (.inl (0, n, z))) (hi : mm_in i n = true) (q : Nat) (hq : mm_un i = q) (hp : Nat.beq a 312 = false) (w : WP S D M nx L st (hH sh (ps (up V a q x) a0 b0 w0 e0 ea0)) Q) : WP S D M pc L (.int x :: .int i :: .ref a :: st) (hH sh (ps V a0 b0 w0 e0 ea0)) Q := wp_iastore hk h64 hs hi q hq (by rw [ps_up _ _ _ _ _ _ _ (by rw [hp]; rfl)]; exact w)
theorem wp_putIP {u n0 ci k a : Nat} {r : List Nat} {fs : List Value} {z x : Int32} {ty : FieldType} (hk : mm_lk M.1 pc = some (p9, .putfield u, nx, n0 :: ci :: k :: r)) (h64 : 64 ≤ a) (hs : sh[a - 64]? = some (.inr (.inr (ci, fs)))) (hf : fs[k]? = some (.int z)) (hty : (mm_fty ci)[k]? = some ty) (hfit : mm_fit ty (.int x) = true) (hp : (!(Nat.beq a 312) || pk k) = true) (w : WP S D M nx L st (hH sh (ps (up V a k x) a0 b0 w0 e0 ea0)) Q) : WP S D M pc L (.int x :: .ref a :: st) (hH sh (ps V a0 b0 w0 e0 ea0)) Q := wp_putI hk h64 hs hf hty hfit (by rw [ps_up _ _ _ _ _ _ _ hp]; exact w)
end WQ
/-- a text f of l bytes is in the buffer -/
def TX (V : hV) (f : Nat → Int32) (l : Nat) : Prop := V.1 312 10 = Int32.ofNat l ∧ l ≤ 600 ∧ V.1 319 = f
theorem e_byteT {S : ww_S} {sh : List mm_C} {V : hV} {a b w : Nat} {e ea : Int32} (hM : MS sh) {f : Nat → Int32} {l k : Nat} (hT : TX V f l) (hk : k ≤ 100000) : EV S 1 201 [.ref 312, .int (Int32.ofNat k)] (hH sh (ps V a b w e ea)) (.inl (some (.int (byt f l k)))) (hH sh (ps V a b w e ea)) := by
  obtain ⟨hl, h6, rfl⟩ := hT
  exact e_byteP hM hl h6 hk
abbrev wn (f : Nat → Int32) (l a : Nat) : Nat := wl f l (sk f l a)
theorem e_nextT {S : ww_S} {sh : List mm_C} {V : hV} {a b w : Nat} {e ea : Int32} (hM : MS sh) {f : Nat → Int32} {l : Nat} (hT : TX V f l) (ha : a ≤ 3000) : EV S 2 202 [.ref 312] (hH sh (ps V a b w e ea)) (.inl (some (.int (byt f l (sk f l a))))) (hH sh (ps V (sk f l a) (sk f l a) (wn f l a) e ea)) := by
  obtain ⟨hl, h6, rfl⟩ := hT
  exact e_next hM hl h6 ha
theorem skF_ns (f : Nat → Int32) (l : Nat) : ∀ g a, l ≤ a + g → byt f l (skF f l g a) ≠ 32
  | 0, a, h => by
    show byt f l a ≠ 32
    rw [byt_ge (by omega)]
    decide
  | g + 1, a, h => by
    unfold skF
    split
    · exact skF_ns f l g (a + 1) (by omega)
    · rename_i h2; exact h2
theorem skF_id {f : Nat → Int32} {l : Nat} : ∀ {g a : Nat}, byt f l a ≠ 32 → skF f l g a = a
  | 0, _, _ => rfl
  | g + 1, a, h => if_neg h
theorem sk_id {f : Nat → Int32} {l a : Nat} (h : byt f l a ≠ 32) : sk f l a = a := skF_id h
theorem sk_sk (f : Nat → Int32) (l a : Nat) : sk f l (sk f l a) = sk f l a := sk_id (skF_ns f l l a (by omega))
theorem sk_le (f : Nat → Int32) (l a : Nat) : sk f l a ≤ a ∨ sk f l a ≤ l := skF_le f l l a
theorem wn_le (f : Nat → Int32) (l a : Nat) : wn f l a = 0 ∨ sk f l a + wn f l a ≤ l := by
  rcases wlF_le f l (sk f l a) l 0 with h | h
  · exact Or.inl (Nat.le_zero.mp h)
  · exact Or.inr h
def allF (g : Nat → Bool) : Nat → Nat → Bool
  | 0, _ => true
  | m + 1, k => g k && allF g m (k + 1)
/-- whether a word of n letters stands at a -/
def seW (f : Nat → Int32) (l a n N : Nat) : Bool := decide (wn f l a = n) && allF (fun i => decide (byt f l (sk f l a + i) = chr N i)) n 0
theorem l_sees {S : ww_S} {sh : List mm_C} {V : hV} {a b : Nat} {ea : Int32} (hM : MS sh) {f : Nat → Int32} {l : Nat} (hT : TX V f l) {k n N : Nat} (hx : XS k n N) {c : Int32} (hb : b ≤ 5000) : ∀ (m i : Nat), m + i = n → WP S 4 mm_m205 27 [some (.ref 312), some (.ref k), some (.int (c)), some (.int (Int32.ofNat i))] [] (hH sh (ps V a b n 0 ea)) (qe (.inl (some (.int (bI (allF (fun i => decide (byt f l (b + i) = chr N i)) m i))))) (hH sh (ps V a b n 0 ea))) := by
  have hn := hx.2.2.2
  intro m
  induction m with
  | zero =>
    intro i hi
    have hi : i = n := by omega
    subst hi
    refine wp_iload_n k205_27 rfl rfl ?_
    refine wp_aload_n k205_28 rfl rfl ?_
    refine wp_getI k205_29 (by decide) hM.o rfl (Int32.ofNat (i)) rfl ?_
    refine wp_if_icmp_ge_T k205_32 (i_nlt (Nat.le_refl i) (by omega)) ?_
    refine wp_iconst 1 k205_61 (by decide) ?_
    exact wp_retz k205_62 rfl rfl rfl
  | succ m ih =>
    intro i hi
    refine wp_iload_n k205_27 rfl rfl ?_
    refine wp_aload_n k205_28 rfl rfl ?_
    refine wp_getI k205_29 (by decide) hM.o rfl (Int32.ofNat (n)) rfl ?_
    refine wp_if_icmp_ge_F k205_32 (i_lt (by omega) (by omega)) ?_
    refine wp_aload_n k205_35 rfl rfl ?_
    refine wp_aload_n k205_36 rfl rfl ?_
    refine wp_getI k205_37 (by decide) hM.o rfl (Int32.ofNat (b)) rfl ?_
    refine wp_iload_n k205_40 rfl rfl ?_
    refine wp_iadd k205_41 ?_
    refine wp_cast (i_add _ _) ?_
    refine wp_cv (st2 := []) k205_42 (e_byteT hM hT (by omega)) (by decide) rfl rfl rfl rfl (by decide) hM.o (by decide) ?_
    refine wp_aload_n k205_45 rfl rfl ?_
    refine wp_iload_n k205_46 rfl rfl ?_
    refine wp_cvx (st2 := [_]) k205_47 (e_char hx (show i < n by omega)) (by decide) rfl rfl rfl rfl hx.lt hx.2.1 (by decide) ?_
    refine wp_if_icmp_eq k205_50 (fun c50 => ?_) (fun c50 => ?_)
    · refine wp_iinc (L1 := [_, _, _, _]) 1 k205_55 rfl (by decide) rfl ?_
      refine wp_goto k205_58 ?_
      refine wp_eq ((ih (i + 1) (by omega)).imp fun v g q => ?_) (by rw [i_succ]) rfl rfl
      rw [show allF (fun i => decide (byt f l (b + i) = chr N i)) (m + 1) i = allF (fun i => decide (byt f l (b + i) = chr N i)) m (i + 1) from by simp only [allF]; rw [decide_eq_true c50, Bool.true_and]]
      exact q
    · refine wp_iconst 0 k205_53 (by decide) ?_
      exact wp_retz k205_54 rfl (by simp only [allF]; rw [decide_eq_false c50]; rfl) rfl
theorem e_sees {S : ww_S} {sh : List mm_C} {V : hV} {a b w : Nat} {e ea : Int32} (hM : MS sh) {f : Nat → Int32} {l : Nat} (hT : TX V f l) (ha : a ≤ 3000) {k n N : Nat} (hx : XS k n N) : EV S 5 205 [.ref 312, .ref k] (hH sh (ps V a b w e ea)) (.inl (some (.int (bI (decide (e = 0) && seW f l a n N))))) (hH sh (ps V (sk f l a) (sk f l a) (wn f l a) e ea)) := by
  refine ev_qe P205 rfl ?_
  have hw : wn f l a ≤ 600 := by
    have := wn_le f l a
    have := hT.2.1
    omega
  have hs : sk f l a ≤ 3000 := by
    have := sk_le f l a
    have := hT.2.1
    omega
  have hn := hx.2.2.2
  refine wp_aload_n k205_0 rfl rfl ?_
  refine wp_cv (st2 := []) k205_1 (e_nextT hM hT (by omega)) (by decide) rfl rfl rfl rfl (by decide) hM.o (by decide) ?_
  refine wp_istore_n (L1 := [_, _, _, _]) k205_4 rfl rfl ?_
  refine wp_aload_n k205_5 rfl rfl ?_
  refine wp_getI k205_6 (by decide) hM.o rfl (e) rfl ?_
  refine wp_if_ne k205_9 (fun c9 => ?_) (fun c9 => ?_)
  · refine wp_iconst 0 k205_23 (by decide) ?_
    exact wp_retz k205_24 rfl (by rw [decide_eq_false c9]; rfl) rfl
  · refine wp_aload_n k205_12 rfl rfl ?_
    refine wp_getI k205_13 (by decide) hM.o rfl (Int32.ofNat (wn f l a)) rfl ?_
    refine wp_aload_n k205_16 rfl rfl ?_
    refine wp_cvx (st2 := [_]) k205_17 (e_slen hx) (by decide) rfl rfl rfl rfl hx.lt hx.2.1 (by decide) ?_
    refine wp_if_icmp_eq k205_20 (fun c20 => ?_) (fun c20 => ?_)
    · refine wp_iconst 0 k205_25 (by decide) ?_
      refine wp_istore_n (L1 := [_, _, _, _]) k205_26 rfl rfl ?_
      have hw2 : wn f l a = n := by
        have := congrArg mm_un c20
        rw [i_un (by omega), i_un (by omega)] at this
        exact this
      subst c9
      rw [hw2]
      refine (l_sees hM hT hx (by omega) n 0 (by omega)).imp fun v g q => ?_
      obtain ⟨q1, q2⟩ := q
      refine ⟨?_, q2⟩
      rw [q1]
      unfold seW
      rw [decide_eq_true hw2]
      rfl
    · refine wp_iconst 0 k205_23 (by decide) ?_
      exact wp_retz k205_24 rfl (by rw [show seW f l a n N = false from by unfold seW; rw [decide_eq_false (fun q => c20 (by rw [q]))]; rfl, Bool.and_false]; rfl) rfl
end M5
