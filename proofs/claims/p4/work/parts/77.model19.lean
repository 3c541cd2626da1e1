section M19
/-! ===== the reference: an answer depends on s and on what is true alone ===== -/
theorem kb_cg {V W : hV} (h : V.1 313 = W.1 313) (p : Nat) (x : Int32) : kb V p x = kb W p x := by
  unfold kb isl alk
  rw [h]
theorem tb_cg {V W : hV} (h : V.1 313 = W.1 313) (p : Nat) (x : Int32) : tb V p x = tb W p x := by
  unfold tb alk
  rw [h]
theorem kba_cg {V W : hV} (h : V.1 313 = W.1 313) (x : Int32) : ∀ n, kba V x n = kba W x n
  | 0 => by
    show V.1 313 2 = W.1 313 2
    rw [h]
  | n + 1 => by
    show kba V x n &&& kb V n x = kba W x n &&& kb W n x
    rw [kba_cg h x n, kb_cg h]
theorem besP_cg {V W : hV} (h : V.1 313 = W.1 313) (w : Nat) (x : Int32) : ∀ n, besP V w x n = besP W w x n
  | 0 => rfl
  | n + 1 => by
    show besP V w x n ||| alk V n w = besP W w x n ||| alk W n w
    rw [besP_cg h w x n]
    unfold alk
    rw [h]
theorem besF_cg {V W : hV} (h : V.1 313 = W.1 313) (n : Nat) (x : Int32) : ∀ w, besF V n x w = besF W n x w
  | 0 => rfl
  | w + 1 => by
    show (if hasB x (Int32.ofNat w) = true then besP V w (besF V n x w) n else besF V n x w) = (if hasB x (Int32.ofNat w) = true then besP W w (besF W n x w) n else besF W n x w)
    rw [besF_cg h n x w, besP_cg h]
theorem com_cg {V W : hV} (h : V.1 313 = W.1 313) (n : Nat) (x : Int32) : com V n x = com W n x := by
  have hb : bes V n = bes W n := funext fun s => besF_cg h n s 32
  unfold com rch isl
  rw [hb, h]
theorem nodeF_cg {V W : hV} (h : V.1 313 = W.1 313) (h2 : V.1 318 = W.1 318) (n k a b : Nat) : nodeF V n k a b = nodeF W n k a b := by
  unfold nodeF
  split
  · rw [h]
  · rw [h, h2]
  · rw [h2]
  · rw [h2]
  · rw [h2, kb_cg h]
  · rw [h2, tb_cg h]
  · rw [h2, kba_cg h]
  · rw [h2, com_cg h]
theorem pp_ne (V : hV) (T : hP) {a : Nat} (h : a ≠ 312) : (pp V T).1 a = V.1 a := funext fun j => ovr_ne V _ h j
theorem askF_pp (V : hV) (T : hP) (n : Nat) {f : Nat} (hf : f ≠ 312) (b : Nat) : ∀ k, askF (pp V T) n f b k = pp (askF V n f b k) T
  | 0 => rfl
  | k + 1 => by
    show up (askF (pp V T) n f b k) 318 k (nodeF (askF (pp V T) n f b k) n (mm_un ((pp V T).1 f (b + 1 + 4 * k))) (mm_un ((pp V T).1 f (b + 1 + 4 * k + 1))) (mm_un ((pp V T).1 f (b + 1 + 4 * k + 2)))) = pp (up (askF V n f b k) 318 k (nodeF (askF V n f b k) n (mm_un (V.1 f (b + 1 + 4 * k))) (mm_un (V.1 f (b + 1 + 4 * k + 1))) (mm_un (V.1 f (b + 1 + 4 * k + 2))))) T
    rw [askF_pp V T n hf b k, pp_ne V T hf, nodeF_cg (pp_ne _ T (by decide)) (pp_ne _ T (by decide))]
    exact ps_up _ _ _ _ _ _ _ rfl
theorem fok_ni {V : hV} {bs np nf : Nat} {q : hQ} {m a n : Nat} (hV : V.1 a = q.1) (h : NI bs np nf q m) (h1 : 1 ≤ m) (hp : np ≤ 5) (hf : nf ≤ 5) : FOK V n a bs m := by
  obtain ⟨g1, g2, g3, g4⟩ := h
  refine ⟨by rw [hV]; exact g1, h1, by omega, fun k hk => ?_⟩
  obtain ⟨kn, x, c, e1, e2, e3, e4, e5, e6, e7, e8, e9⟩ := g4 k hk
  refine ⟨kn, x, c, by rw [hV]; exact e1, by rw [hV]; exact e2, by rw [hV]; exact e3, e4, ?_, ?_, fun z => by have := e8 z; omega⟩
  · by_cases z : kn = 0
    · have := e5 z
      omega
    · have := e6 (by omega)
      omega
  · by_cases z : kn = 2 ∨ kn = 3
    · have := e7 z
      omega
    · by_cases z2 : kn = 4 ∨ kn = 5
      · have := e8 z2
        omega
      · have := e9 (by omega) (by omega) (by omega) (by omega)
        omega
theorem e_askedP {S : ww_S} {sh : List mm_C} {V : hV} {T : hP} (hM : MS sh) {n : Nat} (hn : V.1 313 1 = Int32.ofNat n) (h5 : n ≤ 5) {f nf b m : Nat} (hf64 : 64 ≤ f) (hf : sh[f - 64]? = some (.inl (0, nf, 0))) (hne : f ≠ 318) (hne2 : f ≠ 312) (hb : b + 241 ≤ nf) (hnf : nf ≤ 100000) (hF : FOK V n f b m) : EV S 8 195 [.ref 312, .ref f, .int (Int32.ofNat b)] (hH sh (pp V T)) (.inl (some (.int ((askF V n f b m).1 318 (m - 1))))) (hH sh (pp (askF V n f b m) T)) := by
  have hF2 : FOK (pp V T) n f b m := by
    unfold FOK
    rw [pp_ne V T hne2]
    exact hF
  have h := e_asked (S := S) (V := pp V T) hM (by rw [pp_ne V T (by decide)]; exact hn) h5 hf64 hf hne hb hnf hF2
  rw [askF_pp V T n hne2, pp_ne _ T (by decide)] at h
  exact h
/-! ===== the reference: a formula that is read is a formula ===== -/
theorem rf_fok {S : ww_S} {sh : List mm_C} {V : hV} {T : hP} (hM : MS sh) {f : Nat → Int32} {l : Nat} (hT : TX V f l) (hO : TO l T) {G : Nat → Int32} (hg : V.1 313 = G) {np nf : Nat} (hnp : G 1 = Int32.ofNat np) (h5 : np ≤ 5) (hnf : G 0 = Int32.ofNat nf) (h5f : nf ≤ 5) {j : Nat} (hj : j ≤ 20) {b : Bool} {F : Nat → Int32} (h : er (rfQ G f l (241 * j) b np nf F T).2.2.2 = 0) : er T = 0 ∧ ∃ m : Nat, 1 ≤ m ∧ NI (241 * j) np nf (rfQ G f l (241 * j) b np nf F T) m := by
  have hC : RC (fxV V (241 * j) b) G f l (241 * j) b np nf := ⟨hT, hg, hnp, h5, hnf, h5f, rfl, by omega, rfl⟩
  have hq : OKq l (241 * j) ((fun k => if k = 241 * j then 0 else F k, 0, 0, T) : hQ) := ⟨hO.1, hO.2, Nat.zero_le _, fun _ => Nat.zero_le _, Nat.zero_le _, 0, if_pos rfl, Nat.zero_le _⟩
  have h1 := hO.1
  obtain ⟨h2, h3⟩ := (nd_ok (S := S) hM hC (4 * (l + 2) + 3)).2.2.1 0 _ hq (show 4 * (l + 2 - T.1) + 3 ≤ 4 * (l + 2) + 3 by omega) h
  obtain ⟨m, g1, g2, _⟩ := h3 0 ⟨if_pos rfl, Nat.le_refl _, Nat.zero_le _, fun k hk => absurd hk (Nat.not_lt_zero k)⟩
  exact ⟨h2, m, g2, g1⟩
/-! ===== the reference: a law's line ===== -/
def lwQ (f : Nat → Int32) (l np nf : Nat) (V : hV) (X : hP) : hQ := rfQ (V.1 313) f l (241 * 20) true np nf (V.1 320) (goP X)
def lwV (V : hV) (q : hQ) : hV := fmV (fxV V (241 * 20) true) q.1 q.2.1 q.2.2.1
def lwA (np : Nat) (V : hV) (q : hQ) : hV := askF (lwV V q) np 320 (241 * 20) (mm_un (q.1 (241 * 20)))
def lwW (np : Nat) (V : hV) (q : hQ) : Int32 := (lwA np V q).1 318 (mm_un (q.1 (241 * 20)) - 1)
def lwF (f : Nat → Int32) (l np nf c b : Nat) (V : hV) (T : hP) : hV × hP := if er (muP (if c < 6 then 1 else 0) 3 T) = 0 then (if er (lwQ f l np nf V (muP (if c < 6 then 1 else 0) 3 T)).2.2.2 = 0 then (up (up (lwA np V (lwQ f l np nf V (muP (if c < 6 then 1 else 0) 3 T))) 313 2 (lwW np V (lwQ f l np nf V (muP (if c < 6 then 1 else 0) 3 T)))) 313 5 (Int32.ofNat (c + 1)), muP (if lwW np V (lwQ f l np nf V (muP (if c < 6 then 1 else 0) 3 T)) = 0 then 0 else 1) 4 (beP b (lwQ f l np nf V (muP (if c < 6 then 1 else 0) 3 T)).2.2.2)) else (lwV V (lwQ f l np nf V (muP (if c < 6 then 1 else 0) 3 T)), (lwQ f l np nf V (muP (if c < 6 then 1 else 0) 3 T)).2.2.2)) else (V, muP (if c < 6 then 1 else 0) 3 T)
theorem lw_fr (V : hV) (q : hQ) {a k : Nat} (h1 : a ≠ 312) (h2 : a ≠ 320) : (lwV V q).1 a k = V.1 a k := by
  show (if a = 320 then _ else if a = 312 then _ else (fxV V (241 * 20) true).1 a k) = _
  rw [if_neg h2, if_neg h1]
  unfold fxV
  rw [up_ne _ _ (Or.inl h1), up_ne _ _ (Or.inl h1)]
theorem lw_fr2 (V : hV) (q : hQ) {k : Nat} (h : k < 19) : (lwV V q).1 312 k = V.1 312 k := by
  show (if k = 20 then _ else if k = 21 then _ else (fxV V (241 * 20) true).1 312 k) = _
  rw [if_neg (by omega), if_neg (by omega)]
  unfold fxV
  rw [up_ne _ _ (Or.inr (by omega)), up_ne _ _ (Or.inr (by omega))]
theorem e_lawLine {S : ww_S} {sh : List mm_C} {V : hV} {T : hP} (hM : MS sh) {f : Nat → Int32} {l : Nat} (hT : TX V f l) {np nf : Nat} (hnp : V.1 313 1 = Int32.ofNat np) (h5 : np ≤ 5) (hnf : V.1 313 0 = Int32.ofNat nf) (h5f : nf ≤ 5) {c b : Nat} (hc : V.1 313 5 = Int32.ofNat c) (h6 : c ≤ 6) (hO : TO l T) (hW : TW l T) : EV S 182 230 [.ref 312, .int (Int32.ofNat b)] (hH sh (pp V T)) (.inl none) (hH sh (pp (lwF f l np nf c b V T).1 (lwF f l np nf c b V T).2)) ∧ TO l (lwF f l np nf c b V T).2 ∧ (∃ c' : Nat, (lwF f l np nf c b V T).1.1 313 5 = Int32.ofNat c' ∧ c' ≤ 6) ∧ (∀ a k, a ≠ 312 → a ≠ 313 → a ≠ 318 → a ≠ 320 → (lwF f l np nf c b V T).1.1 a k = V.1 a k) ∧ (∀ k, k < 19 → (lwF f l np nf c b V T).1.1 312 k = V.1 312 k) ∧ (∀ k, k ≠ 2 → k ≠ 5 → (lwF f l np nf c b V T).1.1 313 k = V.1 313 k) := by
  obtain ⟨X, hX⟩ : ∃ X, muP (if c < 6 then 1 else 0) 3 T = X := ⟨_, rfl⟩
  have hO1 : TO l X := by rw [← hX]; exact to_mu (by decide) hO
  have hW1 : TW l X := by rw [← hX]; exact tw_mu (by decide) hW
  unfold lwF
  rw [hX]
  have go : ∀ {Q}, WP S 181 mm_m230 21 [some (.ref 312), some (.int (Int32.ofNat b))] [] (hH sh (pp V X)) Q → WP S 181 mm_m230 0 [some (.ref 312), some (.int (Int32.ofNat b))] [] (hH sh (pp V T)) Q := by
    intro Q E21
    rw [← hX] at E21
    by_cases c2 : c < 6
    · rw [if_pos c2] at E21
      refine wp_aload_n k230_0 rfl rfl ?_
      refine wp_aload_n k230_1 rfl rfl ?_
      refine wp_getR k230_2 (by decide) hM.o rfl ?_
      refine wp_iconst 5 k230_5 (by decide) ?_
      refine wp_ialoadP k230_6 (by decide) (hM.a313) (by decide) 5 (by decide) (by decide) (Int32.ofNat c) hc ?_
      refine wp_bipush 6 k230_7 (by decide) ?_
      refine wp_if_icmp_ge_F k230_9 (i_lt c2 (by decide)) ?_
      refine wp_iconst 1 k230_12 (by decide) ?_
      refine wp_goto k230_13 ?_
      refine wp_iconst 3 k230_17 (by decide) ?_
      refine wp_cvn (st2 := []) k230_18 (e_must hM) (by decide) rfl rfl rfl rfl (by decide) hM.o (by decide) ?_
      exact E21
    · rw [if_neg c2] at E21
      refine wp_aload_n k230_0 rfl rfl ?_
      refine wp_aload_n k230_1 rfl rfl ?_
      refine wp_getR k230_2 (by decide) hM.o rfl ?_
      refine wp_iconst 5 k230_5 (by decide) ?_
      refine wp_ialoadP k230_6 (by decide) (hM.a313) (by decide) 5 (by decide) (by decide) (Int32.ofNat c) hc ?_
      refine wp_bipush 6 k230_7 (by decide) ?_
      refine wp_if_icmp_ge_T k230_9 (i_nlt (Nat.not_lt.mp c2) (by omega)) ?_
      refine wp_iconst 0 k230_16 (by decide) ?_
      refine wp_iconst 3 k230_17 (by decide) ?_
      refine wp_cvn (st2 := []) k230_18 (e_must hM) (by decide) rfl rfl rfl rfl (by decide) hM.o (by decide) ?_
      exact E21
  by_cases h0 : er X = 0
  · rw [if_pos h0]
    have c2 : c < 6 := by
      refine Nat.lt_of_not_le fun z => ?_
      rw [← hX, if_neg (Nat.not_lt.mpr z)] at h0
      have h1 : er T = 0 := mu_er (by decide) h0
      rw [er_mu0 h1] at h0
      exact absurd h0 (by decide)
    have hO2 := to_goW hW1 h0
    obtain ⟨ER, hok⟩ := e_readsFormula (S := S) (T := goP X) hM hT hO2 rfl hnp h5 hnf h5f (j := 20) (by decide) (b := true)
    have hfok := fun h => rf_fok (S := S) (T := goP X) (F := V.1 320) hM hT hO2 rfl hnp h5 hnf h5f (j := 20) (by decide) (b := true) h
    obtain ⟨q, hq⟩ : ∃ q, lwQ f l np nf V X = q := ⟨_, rfl⟩
    rw [show rfQ (V.1 313) f l (241 * 20) true np nf (V.1 320) (goP X) = q from hq] at ER hok hfok
    rw [hq]
    have hO3 : TO l q.2.2.2 := ⟨hok.1, hok.2.1⟩
    by_cases h1 : er q.2.2.2 = 0
    · rw [if_pos h1]
      obtain ⟨_, m, m1, hni⟩ := hfok h1
      have hmm : mm_un (q.1 (241 * 20)) = m := by
        have := hni.2.1
        have := hni.2.2.1
        rw [hni.1]
        exact i_un (by omega)
      have EA := e_askedP (S := S) (V := lwV V q) (T := q.2.2.2) hM (n := np) hnp h5 (f := 320) (by decide) hM.a320 (by decide) (by decide) (b := 241 * 20) (by decide) (by decide) (fok_ni (V := lwV V q) (a := 320) rfl hni m1 h5 h5f)
      have hAA : lwA np V q = askF (lwV V q) np 320 (241 * 20) m := by
        unfold lwA
        rw [hmm]
      have hA2 : (lwA np V q).1 318 (m - 1) = lwW np V q := by
        unfold lwW
        rw [hmm]
      rw [← hAA, hA2] at EA
      have hA5 : (lwA np V q).1 313 5 = Int32.ofNat c := by
        rw [hAA, askF_ne _ _ _ _ (by decide)]
        exact hc
      obtain ⟨A, hA⟩ : ∃ A, lwA np V q = A := ⟨_, rfl⟩
      have hfr : ∀ a k, a ≠ 318 → A.1 a k = (lwV V q).1 a k := fun a k h => by rw [← hA, hAA, askF_ne _ _ _ _ h]
      obtain ⟨x, hx⟩ : ∃ x, lwW np V q = x := ⟨_, rfl⟩
      rw [hA, hx] at EA ⊢
      rw [hA] at hA5
      refine ⟨?_, to_mu (by decide) hO3, ⟨c + 1, up_eq _ _ _ _, by omega⟩, fun a k z1 z2 z3 z4 => ?_, fun k z => ?_, fun k z1 z2 => ?_⟩
      · refine ev_qe P230 rfl (go ?_)
        by_cases hx0 : x = 0
        · rw [if_pos hx0]
          refine wp_aload_n k230_21 rfl rfl ?_
          refine wp_getI k230_22 (by decide) hM.o rfl (X.2.2.2.1) rfl ?_
          refine wp_if_eq_T k230_25 h0 ?_
          refine wp_aload_n k230_29 rfl rfl ?_
          refine wp_aload_n k230_30 rfl rfl ?_
          refine wp_getI k230_31 (by decide) hM.o rfl (Int32.ofNat (X.2.1)) rfl ?_
          refine wp_aload_n k230_34 rfl rfl ?_
          refine wp_getI k230_35 (by decide) hM.o rfl (Int32.ofNat (X.2.2.1)) rfl ?_
          refine wp_iadd k230_38 ?_
          refine wp_cast (i_add _ _) ?_
          refine wp_ps11 k230_39 hM.o (X.2.1 + X.2.2.1) rfl ?_
          refine wp_aload_n k230_42 rfl rfl ?_
          refine wp_bipush 20 k230_43 (by decide) ?_
          refine wp_iconst 1 k230_45 (by decide) ?_
          refine wp_cvn (st2 := []) k230_46 ER (by decide) rfl rfl rfl rfl (by decide) hM.o (by decide) ?_
          refine wp_aload_n k230_49 rfl rfl ?_
          refine wp_getI k230_50 (by decide) hM.o rfl (q.2.2.2.2.2.2.1) rfl ?_
          refine wp_if_eq_T k230_53 h1 ?_
          refine wp_aload_n k230_57 rfl rfl ?_
          refine wp_getR k230_58 (by decide) hM.o rfl ?_
          refine wp_iconst 2 k230_61 (by decide) ?_
          refine wp_aload_n k230_62 rfl rfl ?_
          refine wp_aload_n k230_63 rfl rfl ?_
          refine wp_getR k230_64 (by decide) hM.o rfl ?_
          refine wp_sipush 4820 k230_67 (by decide) ?_
          refine wp_cv (st2 := [_, _]) k230_70 EA (by decide) rfl rfl rfl rfl (by decide) hM.o (by decide) ?_
          refine wp_iastoreP k230_73 (by decide) (hM.a313) (by decide) 2 (by decide) (by decide) ?_
          refine wp_aload_n k230_74 rfl rfl ?_
          refine wp_getR k230_75 (by decide) hM.o rfl ?_
          refine wp_iconst 5 k230_78 (by decide) ?_
          refine wp_dup2 k230_79 rfl rfl ?_
          refine wp_ialoadP k230_80 (by decide) (hM.a313) (by decide) 5 (by decide) (by decide) (Int32.ofNat c) (by rw [up_ne _ _ (Or.inr (by decide))]; exact hA5) ?_
          refine wp_iconst 1 k230_81 (by decide) ?_
          refine wp_iadd k230_82 ?_
          refine wp_cast (show Int32.ofNat (c) + (1 : Int32) = Int32.ofNat (c + 1) from (Int32.ofNat_add _ 1).symm) ?_
          refine wp_iastoreP k230_83 (by decide) (hM.a313) (by decide) 5 (by decide) (by decide) ?_
          refine wp_aload_n k230_84 rfl rfl ?_
          refine wp_iload_n k230_85 rfl rfl ?_
          refine wp_ps12 k230_86 hM.o (b) rfl ?_
          refine wp_aload_n k230_89 rfl rfl ?_
          refine wp_aload_n k230_90 rfl rfl ?_
          refine wp_getR k230_91 (by decide) hM.o rfl ?_
          refine wp_iconst 2 k230_94 (by decide) ?_
          refine wp_ialoadP k230_95 (by decide) (hM.a313) (by decide) 2 (by decide) (by decide) (x) (by rw [up_ne _ _ (Or.inr (by decide)), up_eq]) ?_
          refine wp_if_eq_T k230_96 hx0 ?_
          refine wp_iconst 0 k230_103 (by decide) ?_
          refine wp_iconst 4 k230_104 (by decide) ?_
          refine wp_cvn (st2 := []) k230_105 (e_must hM) (by decide) rfl rfl rfl rfl (by decide) hM.o (by decide) ?_
          exact wp_retn k230_108 rfl rfl
        · rw [if_neg hx0]
          refine wp_aload_n k230_21 rfl rfl ?_
          refine wp_getI k230_22 (by decide) hM.o rfl (X.2.2.2.1) rfl ?_
          refine wp_if_eq_T k230_25 h0 ?_
          refine wp_aload_n k230_29 rfl rfl ?_
          refine wp_aload_n k230_30 rfl rfl ?_
          refine wp_getI k230_31 (by decide) hM.o rfl (Int32.ofNat (X.2.1)) rfl ?_
          refine wp_aload_n k230_34 rfl rfl ?_
          refine wp_getI k230_35 (by decide) hM.o rfl (Int32.ofNat (X.2.2.1)) rfl ?_
          refine wp_iadd k230_38 ?_
          refine wp_cast (i_add _ _) ?_
          refine wp_ps11 k230_39 hM.o (X.2.1 + X.2.2.1) rfl ?_
          refine wp_aload_n k230_42 rfl rfl ?_
          refine wp_bipush 20 k230_43 (by decide) ?_
          refine wp_iconst 1 k230_45 (by decide) ?_
          refine wp_cvn (st2 := []) k230_46 ER (by decide) rfl rfl rfl rfl (by decide) hM.o (by decide) ?_
          refine wp_aload_n k230_49 rfl rfl ?_
          refine wp_getI k230_50 (by decide) hM.o rfl (q.2.2.2.2.2.2.1) rfl ?_
          refine wp_if_eq_T k230_53 h1 ?_
          refine wp_aload_n k230_57 rfl rfl ?_
          refine wp_getR k230_58 (by decide) hM.o rfl ?_
          refine wp_iconst 2 k230_61 (by decide) ?_
          refine wp_aload_n k230_62 rfl rfl ?_
          refine wp_aload_n k230_63 rfl rfl ?_
          refine wp_getR k230_64 (by decide) hM.o rfl ?_
          refine wp_sipush 4820 k230_67 (by decide) ?_
          refine wp_cv (st2 := [_, _]) k230_70 EA (by decide) rfl rfl rfl rfl (by decide) hM.o (by decide) ?_
          refine wp_iastoreP k230_73 (by decide) (hM.a313) (by decide) 2 (by decide) (by decide) ?_
          refine wp_aload_n k230_74 rfl rfl ?_
          refine wp_getR k230_75 (by decide) hM.o rfl ?_
          refine wp_iconst 5 k230_78 (by decide) ?_
          refine wp_dup2 k230_79 rfl rfl ?_
          refine wp_ialoadP k230_80 (by decide) (hM.a313) (by decide) 5 (by decide) (by decide) (Int32.ofNat c) (by rw [up_ne _ _ (Or.inr (by decide))]; exact hA5) ?_
          refine wp_iconst 1 k230_81 (by decide) ?_
          refine wp_iadd k230_82 ?_
          refine wp_cast (show Int32.ofNat (c) + (1 : Int32) = Int32.ofNat (c + 1) from (Int32.ofNat_add _ 1).symm) ?_
          refine wp_iastoreP k230_83 (by decide) (hM.a313) (by decide) 5 (by decide) (by decide) ?_
          refine wp_aload_n k230_84 rfl rfl ?_
          refine wp_iload_n k230_85 rfl rfl ?_
          refine wp_ps12 k230_86 hM.o (b) rfl ?_
          refine wp_aload_n k230_89 rfl rfl ?_
          refine wp_aload_n k230_90 rfl rfl ?_
          refine wp_getR k230_91 (by decide) hM.o rfl ?_
          refine wp_iconst 2 k230_94 (by decide) ?_
          refine wp_ialoadP k230_95 (by decide) (hM.a313) (by decide) 2 (by decide) (by decide) (x) (by rw [up_ne _ _ (Or.inr (by decide)), up_eq]) ?_
          refine wp_if_eq_F k230_96 hx0 ?_
          refine wp_iconst 1 k230_99 (by decide) ?_
          refine wp_goto k230_100 ?_
          refine wp_iconst 4 k230_104 (by decide) ?_
          refine wp_cvn (st2 := []) k230_105 (e_must hM) (by decide) rfl rfl rfl rfl (by decide) hM.o (by decide) ?_
          exact wp_retn k230_108 rfl rfl
      · rw [up_ne _ _ (Or.inl z2), up_ne _ _ (Or.inl z2), hfr a k z3]
        exact lw_fr V q z1 z4
      · rw [up_ne _ _ (Or.inl (by decide)), up_ne _ _ (Or.inl (by decide)), hfr 312 k (by decide)]
        exact lw_fr2 V q z
      · rw [up_ne _ _ (Or.inr z2), up_ne _ _ (Or.inr z1), hfr 313 k (by decide)]
        exact lw_fr V q (by decide) (by decide)
    · rw [if_neg h1]
      refine ⟨?_, hO3, ⟨c, hc, h6⟩, fun a k z1 z2 z3 z4 => lw_fr V q z1 z4, fun k z => lw_fr2 V q z, fun k z1 z2 => lw_fr V q (by decide) (by decide)⟩
      refine ev_qe P230 rfl (go ?_)
      refine wp_aload_n k230_21 rfl rfl ?_
      refine wp_getI k230_22 (by decide) hM.o rfl (X.2.2.2.1) rfl ?_
      refine wp_if_eq_T k230_25 h0 ?_
      refine wp_aload_n k230_29 rfl rfl ?_
      refine wp_aload_n k230_30 rfl rfl ?_
      refine wp_getI k230_31 (by decide) hM.o rfl (Int32.ofNat (X.2.1)) rfl ?_
      refine wp_aload_n k230_34 rfl rfl ?_
      refine wp_getI k230_35 (by decide) hM.o rfl (Int32.ofNat (X.2.2.1)) rfl ?_
      refine wp_iadd k230_38 ?_
      refine wp_cast (i_add _ _) ?_
      refine wp_ps11 k230_39 hM.o (X.2.1 + X.2.2.1) rfl ?_
      refine wp_aload_n k230_42 rfl rfl ?_
      refine wp_bipush 20 k230_43 (by decide) ?_
      refine wp_iconst 1 k230_45 (by decide) ?_
      refine wp_cvn (st2 := []) k230_46 ER (by decide) rfl rfl rfl rfl (by decide) hM.o (by decide) ?_
      refine wp_aload_n k230_49 rfl rfl ?_
      refine wp_getI k230_50 (by decide) hM.o rfl (q.2.2.2.2.2.2.1) rfl ?_
      refine wp_if_eq_F k230_53 h1 ?_
      exact wp_retn k230_56 rfl rfl
  · rw [if_neg h0]
    refine ⟨?_, hO1, ⟨c, hc, h6⟩, fun a k z1 z2 z3 z4 => rfl, fun k z => rfl, fun k z1 z2 => rfl⟩
    refine ev_qe P230 rfl (go ?_)
    refine wp_aload_n k230_21 rfl rfl ?_
    refine wp_getI k230_22 (by decide) hM.o rfl (X.2.2.2.1) rfl ?_
    refine wp_if_eq_F k230_25 h0 ?_
    exact wp_retn k230_28 rfl rfl
end M19
